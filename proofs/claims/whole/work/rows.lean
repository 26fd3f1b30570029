section
-- ===== PART A: goes FIRST, ahead of the names: the tables' words, and 'selects' of the private methods out of them =====
/-- a private method of a class that the tables say can be made, by its rows of tables_1 -/
def lw_okq (q : MethodName × Nat) : Prop := (q.1.cls ≠ "java/lang/invoke/MethodHandle" ∧ q.1.cls ≠ "java/lang/invoke/VarHandle") ∧ Cond.instantiable q.1.cls q.2 ∈ tables_1 ∧ Cond.privateMethod q.1 ∈ tables_1 ∧ Cond.instanceMethod q.1 ∈ tables_1
theorem lw_p0 : lw_okq (⟨"CodePointSets", "registerAt", "(I)LCodePointSets$MemberSet;"⟩, 6) := ⟨⟨by decide +kernel, by decide +kernel⟩, List.mem_of_getElem? (i := 17) (by decide +kernel), List.mem_of_getElem? (i := 233) (by decide +kernel), List.mem_of_getElem? (i := 234) (by decide +kernel)⟩
theorem lw_p1 : lw_okq (⟨"CodePointSets$TokenRow", "takeToken", "()Z"⟩, 6) := ⟨⟨by decide +kernel, by decide +kernel⟩, List.mem_of_getElem? (i := 78) (by decide +kernel), List.mem_of_getElem? (i := 249) (by decide +kernel), List.mem_of_getElem? (i := 250) (by decide +kernel)⟩
theorem lw_p2 : lw_okq (⟨"CodePointSets$TokenRow", "takeOpening", "()Z"⟩, 6) := ⟨⟨by decide +kernel, by decide +kernel⟩, List.mem_of_getElem? (i := 78) (by decide +kernel), List.mem_of_getElem? (i := 253) (by decide +kernel), List.mem_of_getElem? (i := 254) (by decide +kernel)⟩
theorem lw_p3 : lw_okq (⟨"CodePointSets$TokenRow", "add", "(III)Z"⟩, 6) := ⟨⟨by decide +kernel, by decide +kernel⟩, List.mem_of_getElem? (i := 78) (by decide +kernel), List.mem_of_getElem? (i := 257) (by decide +kernel), List.mem_of_getElem? (i := 258) (by decide +kernel)⟩
theorem lw_p4 : lw_okq (⟨"CodePointSets$TokenRow", "collectName", "(I)I"⟩, 6) := ⟨⟨by decide +kernel, by decide +kernel⟩, List.mem_of_getElem? (i := 78) (by decide +kernel), List.mem_of_getElem? (i := 261) (by decide +kernel), List.mem_of_getElem? (i := 262) (by decide +kernel)⟩
theorem lw_p5 : lw_okq (⟨"CodePointSets$TokenRow", "addProperty", "(ZI)Z"⟩, 6) := ⟨⟨by decide +kernel, by decide +kernel⟩, List.mem_of_getElem? (i := 78) (by decide +kernel), List.mem_of_getElem? (i := 270) (by decide +kernel), List.mem_of_getElem? (i := 271) (by decide +kernel)⟩
theorem lw_p6 : lw_okq (⟨"CodePointSets$TokenRow", "takeBracedName", "()Z"⟩, 6) := ⟨⟨by decide +kernel, by decide +kernel⟩, List.mem_of_getElem? (i := 78) (by decide +kernel), List.mem_of_getElem? (i := 341) (by decide +kernel), List.mem_of_getElem? (i := 342) (by decide +kernel)⟩
theorem lw_p7 : lw_okq (⟨"CodePointSets$TokenRow", "takeEscape", "()Z"⟩, 6) := ⟨⟨by decide +kernel, by decide +kernel⟩, List.mem_of_getElem? (i := 78) (by decide +kernel), List.mem_of_getElem? (i := 345) (by decide +kernel), List.mem_of_getElem? (i := 346) (by decide +kernel)⟩
theorem lw_p8 : lw_okq (⟨"CodePointSets$TokenRow", "takeFourDigits", "()Z"⟩, 6) := ⟨⟨by decide +kernel, by decide +kernel⟩, List.mem_of_getElem? (i := 78) (by decide +kernel), List.mem_of_getElem? (i := 349) (by decide +kernel), List.mem_of_getElem? (i := 350) (by decide +kernel)⟩
theorem lw_p9 : lw_okq (⟨"CodePointSets$TokenRow", "countHexDigits", "(II)I"⟩, 6) := ⟨⟨by decide +kernel, by decide +kernel⟩, List.mem_of_getElem? (i := 78) (by decide +kernel), List.mem_of_getElem? (i := 353) (by decide +kernel), List.mem_of_getElem? (i := 354) (by decide +kernel)⟩
theorem lw_p10 : lw_okq (⟨"CodePointSets$TokenRow", "hexValue", "(II)I"⟩, 6) := ⟨⟨by decide +kernel, by decide +kernel⟩, List.mem_of_getElem? (i := 78) (by decide +kernel), List.mem_of_getElem? (i := 360) (by decide +kernel), List.mem_of_getElem? (i := 361) (by decide +kernel)⟩
theorem lw_p11 : lw_okq (⟨"CodePointSets$TokenRow", "takeBracedDigits", "()Z"⟩, 6) := ⟨⟨by decide +kernel, by decide +kernel⟩, List.mem_of_getElem? (i := 78) (by decide +kernel), List.mem_of_getElem? (i := 364) (by decide +kernel), List.mem_of_getElem? (i := 365) (by decide +kernel)⟩
theorem lw_p12 : lw_okq (⟨"CodePointSets$PatternReader", "readPart", "()Z"⟩, 7) := ⟨⟨by decide +kernel, by decide +kernel⟩, List.mem_of_getElem? (i := 72) (by decide +kernel), List.mem_of_getElem? (i := 373) (by decide +kernel), List.mem_of_getElem? (i := 374) (by decide +kernel)⟩
theorem lw_p13 : lw_okq (⟨"CodePointSets$PatternReader", "openBracket", "(Z)Z"⟩, 7) := ⟨⟨by decide +kernel, by decide +kernel⟩, List.mem_of_getElem? (i := 72) (by decide +kernel), List.mem_of_getElem? (i := 386) (by decide +kernel), List.mem_of_getElem? (i := 387) (by decide +kernel)⟩
theorem lw_p14 : lw_okq (⟨"CodePointSets$PatternReader", "endBracket", "()Z"⟩, 7) := ⟨⟨by decide +kernel, by decide +kernel⟩, List.mem_of_getElem? (i := 72) (by decide +kernel), List.mem_of_getElem? (i := 398) (by decide +kernel), List.mem_of_getElem? (i := 399) (by decide +kernel)⟩
theorem lw_p15 : lw_okq (⟨"CodePointSets$PatternReader", "innermost", "()LCodePointSets$OpenBracket;"⟩, 7) := ⟨⟨by decide +kernel, by decide +kernel⟩, List.mem_of_getElem? (i := 72) (by decide +kernel), List.mem_of_getElem? (i := 402) (by decide +kernel), List.mem_of_getElem? (i := 403) (by decide +kernel)⟩
def lw_privs_1 : List (MethodName × Nat) := [(⟨"CodePointSets", "registerAt", "(I)LCodePointSets$MemberSet;"⟩, 6), (⟨"CodePointSets$TokenRow", "takeToken", "()Z"⟩, 6), (⟨"CodePointSets$TokenRow", "takeOpening", "()Z"⟩, 6), (⟨"CodePointSets$TokenRow", "add", "(III)Z"⟩, 6), (⟨"CodePointSets$TokenRow", "collectName", "(I)I"⟩, 6), (⟨"CodePointSets$TokenRow", "addProperty", "(ZI)Z"⟩, 6), (⟨"CodePointSets$TokenRow", "takeBracedName", "()Z"⟩, 6), (⟨"CodePointSets$TokenRow", "takeEscape", "()Z"⟩, 6), (⟨"CodePointSets$TokenRow", "takeFourDigits", "()Z"⟩, 6), (⟨"CodePointSets$TokenRow", "countHexDigits", "(II)I"⟩, 6), (⟨"CodePointSets$TokenRow", "hexValue", "(II)I"⟩, 6), (⟨"CodePointSets$TokenRow", "takeBracedDigits", "()Z"⟩, 6), (⟨"CodePointSets$PatternReader", "readPart", "()Z"⟩, 7), (⟨"CodePointSets$PatternReader", "openBracket", "(Z)Z"⟩, 7), (⟨"CodePointSets$PatternReader", "endBracket", "()Z"⟩, 7), (⟨"CodePointSets$PatternReader", "innermost", "()LCodePointSets$OpenBracket;"⟩, 7)]
theorem lw_r1 : ∀ q ∈ lw_privs_1, lw_okq q := List.forall_mem_cons.mpr ⟨lw_p0, List.forall_mem_cons.mpr ⟨lw_p1, List.forall_mem_cons.mpr ⟨lw_p2, List.forall_mem_cons.mpr ⟨lw_p3, List.forall_mem_cons.mpr ⟨lw_p4, List.forall_mem_cons.mpr ⟨lw_p5, List.forall_mem_cons.mpr ⟨lw_p6, List.forall_mem_cons.mpr ⟨lw_p7, List.forall_mem_cons.mpr ⟨lw_p8, List.forall_mem_cons.mpr ⟨lw_p9, List.forall_mem_cons.mpr ⟨lw_p10, List.forall_mem_cons.mpr ⟨lw_p11, List.forall_mem_cons.mpr ⟨lw_p12, List.forall_mem_cons.mpr ⟨lw_p13, List.forall_mem_cons.mpr ⟨lw_p14, List.forall_mem_cons.mpr ⟨lw_p15, fun _ h => absurd h List.not_mem_nil⟩⟩⟩⟩⟩⟩⟩⟩⟩⟩⟩⟩⟩⟩⟩⟩
theorem lw_p16 : lw_okq (⟨"CodePointSets$MemberSet", "toggleEdge", "(I)V"⟩, 4) := ⟨⟨by decide +kernel, by decide +kernel⟩, List.mem_of_getElem? (i := 44) (by decide +kernel), List.mem_of_getElem? (i := 411) (by decide +kernel), List.mem_of_getElem? (i := 412) (by decide +kernel)⟩
theorem lw_p17 : lw_okq (⟨"CodePointSets$PatternReader", "join", "(LCodePointSets$MemberSet;Z)Z"⟩, 7) := ⟨⟨by decide +kernel, by decide +kernel⟩, List.mem_of_getElem? (i := 72) (by decide +kernel), List.mem_of_getElem? (i := 416) (by decide +kernel), List.mem_of_getElem? (i := 417) (by decide +kernel)⟩
theorem lw_p18 : lw_okq (⟨"CodePointSets$MemberSet", "mergeEdges", "(LCodePointSets$MemberSet;LCodePointSets$MemberSet;I)V"⟩, 4) := ⟨⟨by decide +kernel, by decide +kernel⟩, List.mem_of_getElem? (i := 44) (by decide +kernel), List.mem_of_getElem? (i := 424) (by decide +kernel), List.mem_of_getElem? (i := 425) (by decide +kernel)⟩
theorem lw_p19 : lw_okq (⟨"CodePointSets$MemberSet", "mergeKeys", "(LCodePointSets$MemberSet;LCodePointSets$MemberSet;I)V"⟩, 4) := ⟨⟨by decide +kernel, by decide +kernel⟩, List.mem_of_getElem? (i := 44) (by decide +kernel), List.mem_of_getElem? (i := 431) (by decide +kernel), List.mem_of_getElem? (i := 432) (by decide +kernel)⟩
theorem lw_p20 : lw_okq (⟨"CodePointSets$MemberSet", "appendKey", "(J)V"⟩, 4) := ⟨⟨by decide +kernel, by decide +kernel⟩, List.mem_of_getElem? (i := 44) (by decide +kernel), List.mem_of_getElem? (i := 436) (by decide +kernel), List.mem_of_getElem? (i := 437) (by decide +kernel)⟩
theorem lw_p21 : lw_okq (⟨"CodePointSets$PatternReader", "readProperty", "(Z)Z"⟩, 7) := ⟨⟨by decide +kernel, by decide +kernel⟩, List.mem_of_getElem? (i := 72) (by decide +kernel), List.mem_of_getElem? (i := 440) (by decide +kernel), List.mem_of_getElem? (i := 441) (by decide +kernel)⟩
theorem lw_p22 : lw_okq (⟨"CodePointSets$PatternReader", "readString", "()Z"⟩, 7) := ⟨⟨by decide +kernel, by decide +kernel⟩, List.mem_of_getElem? (i := 72) (by decide +kernel), List.mem_of_getElem? (i := 475) (by decide +kernel), List.mem_of_getElem? (i := 476) (by decide +kernel)⟩
theorem lw_p23 : lw_okq (⟨"CodePointSets$PatternReader", "takeRange", "(III)V"⟩, 7) := ⟨⟨by decide +kernel, by decide +kernel⟩, List.mem_of_getElem? (i := 72) (by decide +kernel), List.mem_of_getElem? (i := 479) (by decide +kernel), List.mem_of_getElem? (i := 480) (by decide +kernel)⟩
theorem lw_p24 : lw_okq (⟨"CodePointSets$PatternReader", "readChar", "()Z"⟩, 7) := ⟨⟨by decide +kernel, by decide +kernel⟩, List.mem_of_getElem? (i := 72) (by decide +kernel), List.mem_of_getElem? (i := 495) (by decide +kernel), List.mem_of_getElem? (i := 496) (by decide +kernel)⟩
theorem lw_p25 : lw_okq (⟨"CodePointSets$PatternReader", "readHyphen", "()Z"⟩, 7) := ⟨⟨by decide +kernel, by decide +kernel⟩, List.mem_of_getElem? (i := 72) (by decide +kernel), List.mem_of_getElem? (i := 499) (by decide +kernel), List.mem_of_getElem? (i := 500) (by decide +kernel)⟩
theorem lw_p26 : lw_okq (⟨"CodePointSets$PatternReader", "readSign", "(I)Z"⟩, 7) := ⟨⟨by decide +kernel, by decide +kernel⟩, List.mem_of_getElem? (i := 72) (by decide +kernel), List.mem_of_getElem? (i := 503) (by decide +kernel), List.mem_of_getElem? (i := 504) (by decide +kernel)⟩
theorem lw_p27 : lw_okq (⟨"CodePointSets$PatternWriter", "put", "(I)V"⟩, 2) := ⟨⟨by decide +kernel, by decide +kernel⟩, List.mem_of_getElem? (i := 162) (by decide +kernel), List.mem_of_getElem? (i := 522) (by decide +kernel), List.mem_of_getElem? (i := 523) (by decide +kernel)⟩
theorem lw_p28 : lw_okq (⟨"CodePointSets$PatternWriter", "writeRange", "(II)V"⟩, 2) := ⟨⟨by decide +kernel, by decide +kernel⟩, List.mem_of_getElem? (i := 162) (by decide +kernel), List.mem_of_getElem? (i := 527) (by decide +kernel), List.mem_of_getElem? (i := 528) (by decide +kernel)⟩
theorem lw_p29 : lw_okq (⟨"CodePointSets$PatternWriter", "writeCode", "(I)V"⟩, 2) := ⟨⟨by decide +kernel, by decide +kernel⟩, List.mem_of_getElem? (i := 162) (by decide +kernel), List.mem_of_getElem? (i := 531) (by decide +kernel), List.mem_of_getElem? (i := 532) (by decide +kernel)⟩
theorem lw_p30 : lw_okq (⟨"CodePointSets$PatternWriter", "writeHex", "(I)V"⟩, 2) := ⟨⟨by decide +kernel, by decide +kernel⟩, List.mem_of_getElem? (i := 162) (by decide +kernel), List.mem_of_getElem? (i := 535) (by decide +kernel), List.mem_of_getElem? (i := 536) (by decide +kernel)⟩
theorem lw_p31 : lw_okq (⟨"CodePointSets$PatternWriter", "writeString", "(J)V"⟩, 2) := ⟨⟨by decide +kernel, by decide +kernel⟩, List.mem_of_getElem? (i := 162) (by decide +kernel), List.mem_of_getElem? (i := 542) (by decide +kernel), List.mem_of_getElem? (i := 543) (by decide +kernel)⟩
def lw_privs_2 : List (MethodName × Nat) := [(⟨"CodePointSets$MemberSet", "toggleEdge", "(I)V"⟩, 4), (⟨"CodePointSets$PatternReader", "join", "(LCodePointSets$MemberSet;Z)Z"⟩, 7), (⟨"CodePointSets$MemberSet", "mergeEdges", "(LCodePointSets$MemberSet;LCodePointSets$MemberSet;I)V"⟩, 4), (⟨"CodePointSets$MemberSet", "mergeKeys", "(LCodePointSets$MemberSet;LCodePointSets$MemberSet;I)V"⟩, 4), (⟨"CodePointSets$MemberSet", "appendKey", "(J)V"⟩, 4), (⟨"CodePointSets$PatternReader", "readProperty", "(Z)Z"⟩, 7), (⟨"CodePointSets$PatternReader", "readString", "()Z"⟩, 7), (⟨"CodePointSets$PatternReader", "takeRange", "(III)V"⟩, 7), (⟨"CodePointSets$PatternReader", "readChar", "()Z"⟩, 7), (⟨"CodePointSets$PatternReader", "readHyphen", "()Z"⟩, 7), (⟨"CodePointSets$PatternReader", "readSign", "(I)Z"⟩, 7), (⟨"CodePointSets$PatternWriter", "put", "(I)V"⟩, 2), (⟨"CodePointSets$PatternWriter", "writeRange", "(II)V"⟩, 2), (⟨"CodePointSets$PatternWriter", "writeCode", "(I)V"⟩, 2), (⟨"CodePointSets$PatternWriter", "writeHex", "(I)V"⟩, 2), (⟨"CodePointSets$PatternWriter", "writeString", "(J)V"⟩, 2)]
theorem lw_r2 : ∀ q ∈ lw_privs_2, lw_okq q := List.forall_mem_cons.mpr ⟨lw_p16, List.forall_mem_cons.mpr ⟨lw_p17, List.forall_mem_cons.mpr ⟨lw_p18, List.forall_mem_cons.mpr ⟨lw_p19, List.forall_mem_cons.mpr ⟨lw_p20, List.forall_mem_cons.mpr ⟨lw_p21, List.forall_mem_cons.mpr ⟨lw_p22, List.forall_mem_cons.mpr ⟨lw_p23, List.forall_mem_cons.mpr ⟨lw_p24, List.forall_mem_cons.mpr ⟨lw_p25, List.forall_mem_cons.mpr ⟨lw_p26, List.forall_mem_cons.mpr ⟨lw_p27, List.forall_mem_cons.mpr ⟨lw_p28, List.forall_mem_cons.mpr ⟨lw_p29, List.forall_mem_cons.mpr ⟨lw_p30, List.forall_mem_cons.mpr ⟨lw_p31, fun _ h => absurd h List.not_mem_nil⟩⟩⟩⟩⟩⟩⟩⟩⟩⟩⟩⟩⟩⟩⟩⟩
theorem lw_p32 : lw_okq (⟨"CodePointSets", "keepSpare", "(I)Z"⟩, 6) := ⟨⟨by decide +kernel, by decide +kernel⟩, List.mem_of_getElem? (i := 17) (by decide +kernel), List.mem_of_getElem? (i := 556) (by decide +kernel), List.mem_of_getElem? (i := 557) (by decide +kernel)⟩
theorem lw_p33 : lw_okq (⟨"CodePointSets", "textIsMember", "(LCodePointSets$MemberSet;II)Z"⟩, 6) := ⟨⟨by decide +kernel, by decide +kernel⟩, List.mem_of_getElem? (i := 17) (by decide +kernel), List.mem_of_getElem? (i := 603) (by decide +kernel), List.mem_of_getElem? (i := 604) (by decide +kernel)⟩
theorem lw_p34 : lw_okq (⟨"CodePointSets", "endOfMembers", "(LCodePointSets$MemberSet;I)I"⟩, 6) := ⟨⟨by decide +kernel, by decide +kernel⟩, List.mem_of_getElem? (i := 17) (by decide +kernel), List.mem_of_getElem? (i := 640) (by decide +kernel), List.mem_of_getElem? (i := 641) (by decide +kernel)⟩
theorem lw_p35 : lw_okq (⟨"CodePointSets", "beginOfMember", "(LCodePointSets$MemberSet;I)I"⟩, 6) := ⟨⟨by decide +kernel, by decide +kernel⟩, List.mem_of_getElem? (i := 17) (by decide +kernel), List.mem_of_getElem? (i := 644) (by decide +kernel), List.mem_of_getElem? (i := 645) (by decide +kernel)⟩
theorem lw_p36 : lw_okq (⟨"CodePointSetsModel", "value", "()I"⟩, 16) := ⟨⟨by decide +kernel, by decide +kernel⟩, List.mem_of_getElem? (i := 648) (by decide +kernel), List.mem_of_getElem? (i := 728) (by decide +kernel), List.mem_of_getElem? (i := 729) (by decide +kernel)⟩
theorem lw_p37 : lw_okq (⟨"CodePointSetsModel", "propertyAt", "(I)Z"⟩, 16) := ⟨⟨by decide +kernel, by decide +kernel⟩, List.mem_of_getElem? (i := 648) (by decide +kernel), List.mem_of_getElem? (i := 732) (by decide +kernel), List.mem_of_getElem? (i := 733) (by decide +kernel)⟩
theorem lw_p38 : lw_okq (⟨"CodePointSetsModel", "is", "(II)Z"⟩, 16) := ⟨⟨by decide +kernel, by decide +kernel⟩, List.mem_of_getElem? (i := 648) (by decide +kernel), List.mem_of_getElem? (i := 736) (by decide +kernel), List.mem_of_getElem? (i := 737) (by decide +kernel)⟩
theorem lw_p39 : lw_okq (⟨"CodePointSetsModel", "property", "()V"⟩, 16) := ⟨⟨by decide +kernel, by decide +kernel⟩, List.mem_of_getElem? (i := 648) (by decide +kernel), List.mem_of_getElem? (i := 740) (by decide +kernel), List.mem_of_getElem? (i := 741) (by decide +kernel)⟩
theorem lw_p40 : lw_okq (⟨"CodePointSetsModel", "expect", "(I)V"⟩, 16) := ⟨⟨by decide +kernel, by decide +kernel⟩, List.mem_of_getElem? (i := 648) (by decide +kernel), List.mem_of_getElem? (i := 744) (by decide +kernel), List.mem_of_getElem? (i := 745) (by decide +kernel)⟩
theorem lw_p41 : lw_okq (⟨"CodePointSetsModel", "empty", "(I)V"⟩, 16) := ⟨⟨by decide +kernel, by decide +kernel⟩, List.mem_of_getElem? (i := 648) (by decide +kernel), List.mem_of_getElem? (i := 752) (by decide +kernel), List.mem_of_getElem? (i := 753) (by decide +kernel)⟩
theorem lw_p42 : lw_okq (⟨"CodePointSetsModel", "fillNamed", "(J)V"⟩, 16) := ⟨⟨by decide +kernel, by decide +kernel⟩, List.mem_of_getElem? (i := 648) (by decide +kernel), List.mem_of_getElem? (i := 756) (by decide +kernel), List.mem_of_getElem? (i := 757) (by decide +kernel)⟩
theorem lw_p43 : lw_okq (⟨"CodePointSetsModel", "addRange", "(III)V"⟩, 16) := ⟨⟨by decide +kernel, by decide +kernel⟩, List.mem_of_getElem? (i := 648) (by decide +kernel), List.mem_of_getElem? (i := 762) (by decide +kernel), List.mem_of_getElem? (i := 763) (by decide +kernel)⟩
theorem lw_p44 : lw_okq (⟨"CodePointSetsModel", "join", "(III)V"⟩, 16) := ⟨⟨by decide +kernel, by decide +kernel⟩, List.mem_of_getElem? (i := 648) (by decide +kernel), List.mem_of_getElem? (i := 766) (by decide +kernel), List.mem_of_getElem? (i := 767) (by decide +kernel)⟩
theorem lw_p45 : lw_okq (⟨"CodePointSetsModel", "make", "(III)V"⟩, 16) := ⟨⟨by decide +kernel, by decide +kernel⟩, List.mem_of_getElem? (i := 648) (by decide +kernel), List.mem_of_getElem? (i := 770) (by decide +kernel), List.mem_of_getElem? (i := 771) (by decide +kernel)⟩
theorem lw_p46 : lw_okq (⟨"CodePointSetsModel", "nextEdge", "(III)I"⟩, 16) := ⟨⟨by decide +kernel, by decide +kernel⟩, List.mem_of_getElem? (i := 648) (by decide +kernel), List.mem_of_getElem? (i := 774) (by decide +kernel), List.mem_of_getElem? (i := 775) (by decide +kernel)⟩
theorem lw_p47 : lw_okq (⟨"CodePointSetsModel", "member", "(II)Z"⟩, 16) := ⟨⟨by decide +kernel, by decide +kernel⟩, List.mem_of_getElem? (i := 648) (by decide +kernel), List.mem_of_getElem? (i := 779) (by decide +kernel), List.mem_of_getElem? (i := 780) (by decide +kernel)⟩
def lw_privs_3 : List (MethodName × Nat) := [(⟨"CodePointSets", "keepSpare", "(I)Z"⟩, 6), (⟨"CodePointSets", "textIsMember", "(LCodePointSets$MemberSet;II)Z"⟩, 6), (⟨"CodePointSets", "endOfMembers", "(LCodePointSets$MemberSet;I)I"⟩, 6), (⟨"CodePointSets", "beginOfMember", "(LCodePointSets$MemberSet;I)I"⟩, 6), (⟨"CodePointSetsModel", "value", "()I"⟩, 16), (⟨"CodePointSetsModel", "propertyAt", "(I)Z"⟩, 16), (⟨"CodePointSetsModel", "is", "(II)Z"⟩, 16), (⟨"CodePointSetsModel", "property", "()V"⟩, 16), (⟨"CodePointSetsModel", "expect", "(I)V"⟩, 16), (⟨"CodePointSetsModel", "empty", "(I)V"⟩, 16), (⟨"CodePointSetsModel", "fillNamed", "(J)V"⟩, 16), (⟨"CodePointSetsModel", "addRange", "(III)V"⟩, 16), (⟨"CodePointSetsModel", "join", "(III)V"⟩, 16), (⟨"CodePointSetsModel", "make", "(III)V"⟩, 16), (⟨"CodePointSetsModel", "nextEdge", "(III)I"⟩, 16), (⟨"CodePointSetsModel", "member", "(II)Z"⟩, 16)]
theorem lw_r3 : ∀ q ∈ lw_privs_3, lw_okq q := List.forall_mem_cons.mpr ⟨lw_p32, List.forall_mem_cons.mpr ⟨lw_p33, List.forall_mem_cons.mpr ⟨lw_p34, List.forall_mem_cons.mpr ⟨lw_p35, List.forall_mem_cons.mpr ⟨lw_p36, List.forall_mem_cons.mpr ⟨lw_p37, List.forall_mem_cons.mpr ⟨lw_p38, List.forall_mem_cons.mpr ⟨lw_p39, List.forall_mem_cons.mpr ⟨lw_p40, List.forall_mem_cons.mpr ⟨lw_p41, List.forall_mem_cons.mpr ⟨lw_p42, List.forall_mem_cons.mpr ⟨lw_p43, List.forall_mem_cons.mpr ⟨lw_p44, List.forall_mem_cons.mpr ⟨lw_p45, List.forall_mem_cons.mpr ⟨lw_p46, List.forall_mem_cons.mpr ⟨lw_p47, fun _ h => absurd h List.not_mem_nil⟩⟩⟩⟩⟩⟩⟩⟩⟩⟩⟩⟩⟩⟩⟩⟩
theorem lw_p48 : lw_okq (⟨"CodePointSetsModel", "stringMember", "(IJ)Z"⟩, 16) := ⟨⟨by decide +kernel, by decide +kernel⟩, List.mem_of_getElem? (i := 648) (by decide +kernel), List.mem_of_getElem? (i := 786) (by decide +kernel), List.mem_of_getElem? (i := 787) (by decide +kernel)⟩
theorem lw_p49 : lw_okq (⟨"CodePointSetsModel", "keepString", "(JZ)V"⟩, 16) := ⟨⟨by decide +kernel, by decide +kernel⟩, List.mem_of_getElem? (i := 648) (by decide +kernel), List.mem_of_getElem? (i := 790) (by decide +kernel), List.mem_of_getElem? (i := 791) (by decide +kernel)⟩
theorem lw_p50 : lw_okq (⟨"CodePointSetsModel", "copy", "(II)V"⟩, 16) := ⟨⟨by decide +kernel, by decide +kernel⟩, List.mem_of_getElem? (i := 648) (by decide +kernel), List.mem_of_getElem? (i := 794) (by decide +kernel), List.mem_of_getElem? (i := 795) (by decide +kernel)⟩
theorem lw_p51 : lw_okq (⟨"CodePointSetsModel", "fillLetters", "()V"⟩, 16) := ⟨⟨by decide +kernel, by decide +kernel⟩, List.mem_of_getElem? (i := 648) (by decide +kernel), List.mem_of_getElem? (i := 804) (by decide +kernel), List.mem_of_getElem? (i := 805) (by decide +kernel)⟩
theorem lw_p52 : lw_okq (⟨"CodePointSetsModel", "open", "()V"⟩, 16) := ⟨⟨by decide +kernel, by decide +kernel⟩, List.mem_of_getElem? (i := 648) (by decide +kernel), List.mem_of_getElem? (i := 813) (by decide +kernel), List.mem_of_getElem? (i := 814) (by decide +kernel)⟩
theorem lw_p53 : lw_okq (⟨"CodePointSetsModel", "level", "()I"⟩, 16) := ⟨⟨by decide +kernel, by decide +kernel⟩, List.mem_of_getElem? (i := 648) (by decide +kernel), List.mem_of_getElem? (i := 817) (by decide +kernel), List.mem_of_getElem? (i := 818) (by decide +kernel)⟩
theorem lw_p54 : lw_okq (⟨"CodePointSetsModel", "item", "()V"⟩, 16) := ⟨⟨by decide +kernel, by decide +kernel⟩, List.mem_of_getElem? (i := 648) (by decide +kernel), List.mem_of_getElem? (i := 821) (by decide +kernel), List.mem_of_getElem? (i := 822) (by decide +kernel)⟩
theorem lw_p55 : lw_okq (⟨"CodePointSetsModel", "pastSpaces", "(I)I"⟩, 16) := ⟨⟨by decide +kernel, by decide +kernel⟩, List.mem_of_getElem? (i := 648) (by decide +kernel), List.mem_of_getElem? (i := 825) (by decide +kernel), List.mem_of_getElem? (i := 826) (by decide +kernel)⟩
theorem lw_p56 : lw_okq (⟨"CodePointSetsModel", "shut", "()V"⟩, 16) := ⟨⟨by decide +kernel, by decide +kernel⟩, List.mem_of_getElem? (i := 648) (by decide +kernel), List.mem_of_getElem? (i := 829) (by decide +kernel), List.mem_of_getElem? (i := 830) (by decide +kernel)⟩
theorem lw_p57 : lw_okq (⟨"CodePointSetsModel", "takeSet", "(I)V"⟩, 16) := ⟨⟨by decide +kernel, by decide +kernel⟩, List.mem_of_getElem? (i := 648) (by decide +kernel), List.mem_of_getElem? (i := 833) (by decide +kernel), List.mem_of_getElem? (i := 834) (by decide +kernel)⟩
theorem lw_p58 : lw_okq (⟨"CodePointSetsModel", "ended", "(I)V"⟩, 16) := ⟨⟨by decide +kernel, by decide +kernel⟩, List.mem_of_getElem? (i := 648) (by decide +kernel), List.mem_of_getElem? (i := 837) (by decide +kernel), List.mem_of_getElem? (i := 838) (by decide +kernel)⟩
theorem lw_p59 : lw_okq (⟨"CodePointSetsModel", "string", "()V"⟩, 16) := ⟨⟨by decide +kernel, by decide +kernel⟩, List.mem_of_getElem? (i := 648) (by decide +kernel), List.mem_of_getElem? (i := 841) (by decide +kernel), List.mem_of_getElem? (i := 842) (by decide +kernel)⟩
theorem lw_p60 : lw_okq (⟨"CodePointSetsModel", "readChar", "()I"⟩, 16) := ⟨⟨by decide +kernel, by decide +kernel⟩, List.mem_of_getElem? (i := 648) (by decide +kernel), List.mem_of_getElem? (i := 845) (by decide +kernel), List.mem_of_getElem? (i := 846) (by decide +kernel)⟩
theorem lw_p61 : lw_okq (⟨"CodePointSetsModel", "hexDigits", "(II)I"⟩, 16) := ⟨⟨by decide +kernel, by decide +kernel⟩, List.mem_of_getElem? (i := 648) (by decide +kernel), List.mem_of_getElem? (i := 852) (by decide +kernel), List.mem_of_getElem? (i := 853) (by decide +kernel)⟩
theorem lw_p62 : lw_okq (⟨"CodePointSetsModel", "signOrDash", "()V"⟩, 16) := ⟨⟨by decide +kernel, by decide +kernel⟩, List.mem_of_getElem? (i := 648) (by decide +kernel), List.mem_of_getElem? (i := 862) (by decide +kernel), List.mem_of_getElem? (i := 863) (by decide +kernel)⟩
theorem lw_p63 : lw_okq (⟨"CodePointSetsModel", "setAt", "(I)Z"⟩, 16) := ⟨⟨by decide +kernel, by decide +kernel⟩, List.mem_of_getElem? (i := 648) (by decide +kernel), List.mem_of_getElem? (i := 866) (by decide +kernel), List.mem_of_getElem? (i := 867) (by decide +kernel)⟩
def lw_privs_4 : List (MethodName × Nat) := [(⟨"CodePointSetsModel", "stringMember", "(IJ)Z"⟩, 16), (⟨"CodePointSetsModel", "keepString", "(JZ)V"⟩, 16), (⟨"CodePointSetsModel", "copy", "(II)V"⟩, 16), (⟨"CodePointSetsModel", "fillLetters", "()V"⟩, 16), (⟨"CodePointSetsModel", "open", "()V"⟩, 16), (⟨"CodePointSetsModel", "level", "()I"⟩, 16), (⟨"CodePointSetsModel", "item", "()V"⟩, 16), (⟨"CodePointSetsModel", "pastSpaces", "(I)I"⟩, 16), (⟨"CodePointSetsModel", "shut", "()V"⟩, 16), (⟨"CodePointSetsModel", "takeSet", "(I)V"⟩, 16), (⟨"CodePointSetsModel", "ended", "(I)V"⟩, 16), (⟨"CodePointSetsModel", "string", "()V"⟩, 16), (⟨"CodePointSetsModel", "readChar", "()I"⟩, 16), (⟨"CodePointSetsModel", "hexDigits", "(II)I"⟩, 16), (⟨"CodePointSetsModel", "signOrDash", "()V"⟩, 16), (⟨"CodePointSetsModel", "setAt", "(I)Z"⟩, 16)]
theorem lw_r4 : ∀ q ∈ lw_privs_4, lw_okq q := List.forall_mem_cons.mpr ⟨lw_p48, List.forall_mem_cons.mpr ⟨lw_p49, List.forall_mem_cons.mpr ⟨lw_p50, List.forall_mem_cons.mpr ⟨lw_p51, List.forall_mem_cons.mpr ⟨lw_p52, List.forall_mem_cons.mpr ⟨lw_p53, List.forall_mem_cons.mpr ⟨lw_p54, List.forall_mem_cons.mpr ⟨lw_p55, List.forall_mem_cons.mpr ⟨lw_p56, List.forall_mem_cons.mpr ⟨lw_p57, List.forall_mem_cons.mpr ⟨lw_p58, List.forall_mem_cons.mpr ⟨lw_p59, List.forall_mem_cons.mpr ⟨lw_p60, List.forall_mem_cons.mpr ⟨lw_p61, List.forall_mem_cons.mpr ⟨lw_p62, List.forall_mem_cons.mpr ⟨lw_p63, fun _ h => absurd h List.not_mem_nil⟩⟩⟩⟩⟩⟩⟩⟩⟩⟩⟩⟩⟩⟩⟩⟩
theorem lw_p64 : lw_okq (⟨"CodePointSetsModel", "chars", "()V"⟩, 16) := ⟨⟨by decide +kernel, by decide +kernel⟩, List.mem_of_getElem? (i := 648) (by decide +kernel), List.mem_of_getElem? (i := 870) (by decide +kernel), List.mem_of_getElem? (i := 871) (by decide +kernel)⟩
theorem lw_p65 : lw_okq (⟨"CodePointSetsModel", "put", "(I)V"⟩, 16) := ⟨⟨by decide +kernel, by decide +kernel⟩, List.mem_of_getElem? (i := 648) (by decide +kernel), List.mem_of_getElem? (i := 878) (by decide +kernel), List.mem_of_getElem? (i := 879) (by decide +kernel)⟩
theorem lw_p66 : lw_okq (⟨"CodePointSetsModel", "putPoint", "(I)V"⟩, 16) := ⟨⟨by decide +kernel, by decide +kernel⟩, List.mem_of_getElem? (i := 648) (by decide +kernel), List.mem_of_getElem? (i := 882) (by decide +kernel), List.mem_of_getElem? (i := 883) (by decide +kernel)⟩
theorem lw_p67 : lw_okq (⟨"CodePointSetsModel", "putString", "(J)V"⟩, 16) := ⟨⟨by decide +kernel, by decide +kernel⟩, List.mem_of_getElem? (i := 648) (by decide +kernel), List.mem_of_getElem? (i := 888) (by decide +kernel), List.mem_of_getElem? (i := 889) (by decide +kernel)⟩
theorem lw_p68 : lw_okq (⟨"CodePointSetsModel", "takeMade", "(I)Z"⟩, 16) := ⟨⟨by decide +kernel, by decide +kernel⟩, List.mem_of_getElem? (i := 648) (by decide +kernel), List.mem_of_getElem? (i := 897) (by decide +kernel), List.mem_of_getElem? (i := 898) (by decide +kernel)⟩
theorem lw_p69 : lw_okq (⟨"CodePointSetsModel", "alike", "(III)V"⟩, 16) := ⟨⟨by decide +kernel, by decide +kernel⟩, List.mem_of_getElem? (i := 648) (by decide +kernel), List.mem_of_getElem? (i := 909) (by decide +kernel), List.mem_of_getElem? (i := 910) (by decide +kernel)⟩
theorem lw_p70 : lw_okq (⟨"CodePointSetsModel", "begins", "(III)Z"⟩, 16) := ⟨⟨by decide +kernel, by decide +kernel⟩, List.mem_of_getElem? (i := 648) (by decide +kernel), List.mem_of_getElem? (i := 946) (by decide +kernel), List.mem_of_getElem? (i := 947) (by decide +kernel)⟩
def lw_privs_5 : List (MethodName × Nat) := [(⟨"CodePointSetsModel", "chars", "()V"⟩, 16), (⟨"CodePointSetsModel", "put", "(I)V"⟩, 16), (⟨"CodePointSetsModel", "putPoint", "(I)V"⟩, 16), (⟨"CodePointSetsModel", "putString", "(J)V"⟩, 16), (⟨"CodePointSetsModel", "takeMade", "(I)Z"⟩, 16), (⟨"CodePointSetsModel", "alike", "(III)V"⟩, 16), (⟨"CodePointSetsModel", "begins", "(III)Z"⟩, 16)]
theorem lw_r5 : ∀ q ∈ lw_privs_5, lw_okq q := List.forall_mem_cons.mpr ⟨lw_p64, List.forall_mem_cons.mpr ⟨lw_p65, List.forall_mem_cons.mpr ⟨lw_p66, List.forall_mem_cons.mpr ⟨lw_p67, List.forall_mem_cons.mpr ⟨lw_p68, List.forall_mem_cons.mpr ⟨lw_p69, List.forall_mem_cons.mpr ⟨lw_p70, fun _ h => absurd h List.not_mem_nil⟩⟩⟩⟩⟩⟩⟩
def lw_privs : List (MethodName × Nat) := lw_privs_1 ++ (lw_privs_2 ++ (lw_privs_3 ++ (lw_privs_4 ++ (lw_privs_5))))
def lw_tbl : List Cond := k2_sels lw_privs ++ tables_1
theorem lw_privs_ok : ∀ q ∈ lw_privs, lw_okq q := by
  show ∀ q ∈ lw_privs_1 ++ (lw_privs_2 ++ (lw_privs_3 ++ (lw_privs_4 ++ (lw_privs_5)))), lw_okq q
  exact List.forall_mem_append.mpr ⟨lw_r1, List.forall_mem_append.mpr ⟨lw_r2, List.forall_mem_append.mpr ⟨lw_r3, List.forall_mem_append.mpr ⟨lw_r4, lw_r5⟩⟩⟩⟩
end
section
/-! names: written by wip/gen/mknames.py out of the claim's Statement and javap's listing -/
def wWL : List Cond := lw_tbl.filter goodWord
theorem wWL_ok : ∀ w ∈ wWL, (w.onTables && w.keeps) = true ∨ ∃ ty, w = .arrayClass ty := fun w h => good_of_word (List.mem_filter.mp h).2
theorem wIn (i : Nat) {w : Cond} (h : tables_1[i]? = some w) (hg : goodWord w = true) : w ∈ wWL := List.mem_filter.mpr ⟨List.mem_append_right _ (List.mem_of_getElem? h), hg⟩
theorem wSel {y : MethodName} {n : Nat} (h : (y, n) ∈ lw_privs) : Cond.selects y.cls y y ∈ wWL := List.mem_filter.mpr ⟨List.mem_append_left _ (by unfold k2_sels; exact List.mem_map.mpr ⟨(y, n), h, rfl⟩), rfl⟩
def wT_CR : u_T := fun k => match k with
  | 0 => ("CodePointSets$CodeRow", "codes", "[I", true)
  | _ => ("CodePointSets$CodeRow", "count", "I", false)
def wy_CR : Nat → FieldType := fun k => match k with
  | 0 => .array .int
  | _ => .int
theorem wy_CR_ok : ∀ k, k < 2 → parseFieldDescriptor (wT_CR k).2.2.1 = some (wy_CR k) := by decide +kernel
theorem wn_CR_ok : ∀ a, a < 2 → ∀ b, b < 2 → a ≠ b → (wT_CR a).2.1 ≠ (wT_CR b).2.1 := by decide +kernel
theorem wi_CR_ok : ∀ w ∈ u_ws "CodePointSets$CodeRow" wT_CR 2, w ∈ wWL := by
  show ∀ w ∈ [u_lay "CodePointSets$CodeRow" wT_CR 0, u_lay "CodePointSets$CodeRow" wT_CR 1], w ∈ wWL
  exact List.forall_mem_cons.mpr ⟨wIn 36 (by decide +kernel) (by decide +kernel), List.forall_mem_cons.mpr ⟨wIn 38 (by decide +kernel) (by decide +kernel), fun _ h => absurd h List.not_mem_nil⟩⟩
def wT_MS : u_T := fun k => match k with
  | 0 => ("CodePointSets$MemberSet", "edges", "[I", true)
  | 1 => ("CodePointSets$MemberSet", "edgeCount", "I", false)
  | 2 => ("CodePointSets$MemberSet", "keys", "[J", true)
  | _ => ("CodePointSets$MemberSet", "stringCount", "I", false)
def wy_MS : Nat → FieldType := fun k => match k with
  | 0 => .array .int
  | 1 => .int
  | 2 => .array .long
  | _ => .int
theorem wy_MS_ok : ∀ k, k < 4 → parseFieldDescriptor (wT_MS k).2.2.1 = some (wy_MS k) := by decide +kernel
theorem wn_MS_ok : ∀ a, a < 4 → ∀ b, b < 4 → a ≠ b → (wT_MS a).2.1 ≠ (wT_MS b).2.1 := by decide +kernel
theorem wi_MS_ok : ∀ w ∈ u_ws "CodePointSets$MemberSet" wT_MS 4, w ∈ wWL := by
  show ∀ w ∈ [u_lay "CodePointSets$MemberSet" wT_MS 0, u_lay "CodePointSets$MemberSet" wT_MS 1, u_lay "CodePointSets$MemberSet" wT_MS 2, u_lay "CodePointSets$MemberSet" wT_MS 3], w ∈ wWL
  exact List.forall_mem_cons.mpr ⟨wIn 61 (by decide +kernel) (by decide +kernel), List.forall_mem_cons.mpr ⟨wIn 63 (by decide +kernel) (by decide +kernel), List.forall_mem_cons.mpr ⟨wIn 65 (by decide +kernel) (by decide +kernel), List.forall_mem_cons.mpr ⟨wIn 67 (by decide +kernel) (by decide +kernel), fun _ h => absurd h List.not_mem_nil⟩⟩⟩⟩
def wT_OB : u_T := fun k => match k with
  | 0 => ("CodePointSets$OpenBracket", "value", "LCodePointSets$MemberSet;", false)
  | 1 => ("CodePointSets$OpenBracket", "others", "Z", false)
  | 2 => ("CodePointSets$OpenBracket", "itemCount", "I", false)
  | 3 => ("CodePointSets$OpenBracket", "behindSet", "Z", false)
  | _ => ("CodePointSets$OpenBracket", "how", "I", false)
def wy_OB : Nat → FieldType := fun k => match k with
  | 0 => .object "CodePointSets$MemberSet"
  | 1 => .boolean
  | 2 => .int
  | 3 => .boolean
  | _ => .int
theorem wy_OB_ok : ∀ k, k < 5 → parseFieldDescriptor (wT_OB k).2.2.1 = some (wy_OB k) := by decide +kernel
theorem wn_OB_ok : ∀ a, a < 5 → ∀ b, b < 5 → a ≠ b → (wT_OB a).2.1 ≠ (wT_OB b).2.1 := by decide +kernel
theorem wi_OB_ok : ∀ w ∈ u_ws "CodePointSets$OpenBracket" wT_OB 5, w ∈ wWL := by
  show ∀ w ∈ [u_lay "CodePointSets$OpenBracket" wT_OB 0, u_lay "CodePointSets$OpenBracket" wT_OB 1, u_lay "CodePointSets$OpenBracket" wT_OB 2, u_lay "CodePointSets$OpenBracket" wT_OB 3, u_lay "CodePointSets$OpenBracket" wT_OB 4], w ∈ wWL
  exact List.forall_mem_cons.mpr ⟨wIn 126 (by decide +kernel) (by decide +kernel), List.forall_mem_cons.mpr ⟨wIn 128 (by decide +kernel) (by decide +kernel), List.forall_mem_cons.mpr ⟨wIn 130 (by decide +kernel) (by decide +kernel), List.forall_mem_cons.mpr ⟨wIn 132 (by decide +kernel) (by decide +kernel), List.forall_mem_cons.mpr ⟨wIn 134 (by decide +kernel) (by decide +kernel), fun _ h => absurd h List.not_mem_nil⟩⟩⟩⟩⟩
def wT_PR : u_T := fun k => match k with
  | 0 => ("CodePointSets$PatternReader", "tokens", "LCodePointSets$TokenRow;", true)
  | 1 => ("CodePointSets$PatternReader", "brackets", "[LCodePointSets$OpenBracket;", true)
  | 2 => ("CodePointSets$PatternReader", "depth", "I", false)
  | 3 => ("CodePointSets$PatternReader", "next", "I", false)
  | 4 => ("CodePointSets$PatternReader", "operand", "LCodePointSets$MemberSet;", false)
  | 5 => ("CodePointSets$PatternReader", "spare", "LCodePointSets$MemberSet;", false)
  | _ => ("CodePointSets$PatternReader", "value", "LCodePointSets$MemberSet;", false)
def wy_PR : Nat → FieldType := fun k => match k with
  | 0 => .object "CodePointSets$TokenRow"
  | 1 => .array (.object "CodePointSets$OpenBracket")
  | 2 => .int
  | 3 => .int
  | 4 => .object "CodePointSets$MemberSet"
  | 5 => .object "CodePointSets$MemberSet"
  | _ => .object "CodePointSets$MemberSet"
theorem wy_PR_ok : ∀ k, k < 7 → parseFieldDescriptor (wT_PR k).2.2.1 = some (wy_PR k) := by decide +kernel
theorem wn_PR_ok : ∀ a, a < 7 → ∀ b, b < 7 → a ≠ b → (wT_PR a).2.1 ≠ (wT_PR b).2.1 := by decide +kernel
theorem wi_PR_ok : ∀ w ∈ u_ws "CodePointSets$PatternReader" wT_PR 7, w ∈ wWL := by
  show ∀ w ∈ [u_lay "CodePointSets$PatternReader" wT_PR 0, u_lay "CodePointSets$PatternReader" wT_PR 1, u_lay "CodePointSets$PatternReader" wT_PR 2, u_lay "CodePointSets$PatternReader" wT_PR 3, u_lay "CodePointSets$PatternReader" wT_PR 4, u_lay "CodePointSets$PatternReader" wT_PR 5, u_lay "CodePointSets$PatternReader" wT_PR 6], w ∈ wWL
  exact List.forall_mem_cons.mpr ⟨wIn 146 (by decide +kernel) (by decide +kernel), List.forall_mem_cons.mpr ⟨wIn 148 (by decide +kernel) (by decide +kernel), List.forall_mem_cons.mpr ⟨wIn 150 (by decide +kernel) (by decide +kernel), List.forall_mem_cons.mpr ⟨wIn 152 (by decide +kernel) (by decide +kernel), List.forall_mem_cons.mpr ⟨wIn 154 (by decide +kernel) (by decide +kernel), List.forall_mem_cons.mpr ⟨wIn 156 (by decide +kernel) (by decide +kernel), List.forall_mem_cons.mpr ⟨wIn 158 (by decide +kernel) (by decide +kernel), fun _ h => absurd h List.not_mem_nil⟩⟩⟩⟩⟩⟩⟩
def wT_PW : u_T := fun k => match k with
  | 0 => ("CodePointSets$PatternWriter", "row", "LCodePointSets$CodeRow;", true)
  | _ => ("CodePointSets$PatternWriter", "fits", "Z", false)
def wy_PW : Nat → FieldType := fun k => match k with
  | 0 => .object "CodePointSets$CodeRow"
  | _ => .boolean
theorem wy_PW_ok : ∀ k, k < 2 → parseFieldDescriptor (wT_PW k).2.2.1 = some (wy_PW k) := by decide +kernel
theorem wn_PW_ok : ∀ a, a < 2 → ∀ b, b < 2 → a ≠ b → (wT_PW a).2.1 ≠ (wT_PW b).2.1 := by decide +kernel
theorem wi_PW_ok : ∀ w ∈ u_ws "CodePointSets$PatternWriter" wT_PW 2, w ∈ wWL := by
  show ∀ w ∈ [u_lay "CodePointSets$PatternWriter" wT_PW 0, u_lay "CodePointSets$PatternWriter" wT_PW 1], w ∈ wWL
  exact List.forall_mem_cons.mpr ⟨wIn 172 (by decide +kernel) (by decide +kernel), List.forall_mem_cons.mpr ⟨wIn 174 (by decide +kernel) (by decide +kernel), fun _ h => absurd h List.not_mem_nil⟩⟩
def wT_TR : u_T := fun k => match k with
  | 0 => ("CodePointSets$TokenRow", "text", "LCodePointSets$CodeRow;", true)
  | 1 => ("CodePointSets$TokenRow", "kinds", "[I", true)
  | 2 => ("CodePointSets$TokenRow", "values", "[I", true)
  | 3 => ("CodePointSets$TokenRow", "letters", "LCodePointSets$CodeRow;", true)
  | 4 => ("CodePointSets$TokenRow", "count", "I", false)
  | _ => ("CodePointSets$TokenRow", "position", "I", false)
def wy_TR : Nat → FieldType := fun k => match k with
  | 0 => .object "CodePointSets$CodeRow"
  | 1 => .array .int
  | 2 => .array .int
  | 3 => .object "CodePointSets$CodeRow"
  | 4 => .int
  | _ => .int
theorem wy_TR_ok : ∀ k, k < 6 → parseFieldDescriptor (wT_TR k).2.2.1 = some (wy_TR k) := by decide +kernel
theorem wn_TR_ok : ∀ a, a < 6 → ∀ b, b < 6 → a ≠ b → (wT_TR a).2.1 ≠ (wT_TR b).2.1 := by decide +kernel
theorem wi_TR_ok : ∀ w ∈ u_ws "CodePointSets$TokenRow" wT_TR 6, w ∈ wWL := by
  show ∀ w ∈ [u_lay "CodePointSets$TokenRow" wT_TR 0, u_lay "CodePointSets$TokenRow" wT_TR 1, u_lay "CodePointSets$TokenRow" wT_TR 2, u_lay "CodePointSets$TokenRow" wT_TR 3, u_lay "CodePointSets$TokenRow" wT_TR 4, u_lay "CodePointSets$TokenRow" wT_TR 5], w ∈ wWL
  exact List.forall_mem_cons.mpr ⟨wIn 92 (by decide +kernel) (by decide +kernel), List.forall_mem_cons.mpr ⟨wIn 94 (by decide +kernel) (by decide +kernel), List.forall_mem_cons.mpr ⟨wIn 96 (by decide +kernel) (by decide +kernel), List.forall_mem_cons.mpr ⟨wIn 98 (by decide +kernel) (by decide +kernel), List.forall_mem_cons.mpr ⟨wIn 100 (by decide +kernel) (by decide +kernel), List.forall_mem_cons.mpr ⟨wIn 102 (by decide +kernel) (by decide +kernel), fun _ h => absurd h List.not_mem_nil⟩⟩⟩⟩⟩⟩
def wT_CP : u_T := fun k => match k with
  | 0 => ("CodePointSets", "text", "LCodePointSets$CodeRow;", true)
  | 1 => ("CodePointSets", "registers", "[LCodePointSets$MemberSet;", true)
  | 2 => ("CodePointSets", "reader", "LCodePointSets$PatternReader;", true)
  | 3 => ("CodePointSets", "writer", "LCodePointSets$PatternWriter;", true)
  | 4 => ("CodePointSets", "alikes", "LCodePointSets$MemberSet;", true)
  | _ => ("CodePointSets", "spare", "LCodePointSets$MemberSet;", false)
def wy_CP : Nat → FieldType := fun k => match k with
  | 0 => .object "CodePointSets$CodeRow"
  | 1 => .array (.object "CodePointSets$MemberSet")
  | 2 => .object "CodePointSets$PatternReader"
  | 3 => .object "CodePointSets$PatternWriter"
  | 4 => .object "CodePointSets$MemberSet"
  | _ => .object "CodePointSets$MemberSet"
theorem wy_CP_ok : ∀ k, k < 6 → parseFieldDescriptor (wT_CP k).2.2.1 = some (wy_CP k) := by decide +kernel
theorem wn_CP_ok : ∀ a, a < 6 → ∀ b, b < 6 → a ≠ b → (wT_CP a).2.1 ≠ (wT_CP b).2.1 := by decide +kernel
theorem wi_CP_ok : ∀ w ∈ u_ws "CodePointSets" wT_CP 6, w ∈ wWL := by
  show ∀ w ∈ [u_lay "CodePointSets" wT_CP 0, u_lay "CodePointSets" wT_CP 1, u_lay "CodePointSets" wT_CP 2, u_lay "CodePointSets" wT_CP 3, u_lay "CodePointSets" wT_CP 4, u_lay "CodePointSets" wT_CP 5], w ∈ wWL
  exact List.forall_mem_cons.mpr ⟨wIn 183 (by decide +kernel) (by decide +kernel), List.forall_mem_cons.mpr ⟨wIn 185 (by decide +kernel) (by decide +kernel), List.forall_mem_cons.mpr ⟨wIn 187 (by decide +kernel) (by decide +kernel), List.forall_mem_cons.mpr ⟨wIn 189 (by decide +kernel) (by decide +kernel), List.forall_mem_cons.mpr ⟨wIn 191 (by decide +kernel) (by decide +kernel), List.forall_mem_cons.mpr ⟨wIn 193 (by decide +kernel) (by decide +kernel), fun _ h => absurd h List.not_mem_nil⟩⟩⟩⟩⟩⟩
def wT_MO : u_T := fun k => match k with
  | 0 => ("CodePointSetsModel", "text", "[I", false)
  | 1 => ("CodePointSetsModel", "size", "I", false)
  | 2 => ("CodePointSetsModel", "edges", "[I", false)
  | 3 => ("CodePointSetsModel", "edgeCount", "[I", false)
  | 4 => ("CodePointSetsModel", "strings", "[J", false)
  | 5 => ("CodePointSetsModel", "stringCount", "[I", false)
  | 6 => ("CodePointSetsModel", "at", "I", false)
  | 7 => ("CodePointSetsModel", "good", "Z", false)
  | 8 => ("CodePointSetsModel", "depth", "I", false)
  | 9 => ("CodePointSetsModel", "turned", "[Z", false)
  | 10 => ("CodePointSetsModel", "before", "[I", false)
  | 11 => ("CodePointSetsModel", "sign", "[I", false)
  | 12 => ("CodePointSetsModel", "out", "[I", false)
  | 13 => ("CodePointSetsModel", "written", "I", false)
  | 14 => ("CodePointSetsModel", "fits", "Z", false)
  | _ => ("CodePointSetsModel", "reached", "[Z", false)
def wy_MO : Nat → FieldType := fun k => match k with
  | 0 => .array .int
  | 1 => .int
  | 2 => .array .int
  | 3 => .array .int
  | 4 => .array .long
  | 5 => .array .int
  | 6 => .int
  | 7 => .boolean
  | 8 => .int
  | 9 => .array .boolean
  | 10 => .array .int
  | 11 => .array .int
  | 12 => .array .int
  | 13 => .int
  | 14 => .boolean
  | _ => .array .boolean
theorem wy_MO_ok : ∀ k, k < 16 → parseFieldDescriptor (wT_MO k).2.2.1 = some (wy_MO k) := by decide +kernel
theorem wn_MO_ok : ∀ a, a < 16 → ∀ b, b < 16 → a ≠ b → (wT_MO a).2.1 ≠ (wT_MO b).2.1 := by decide +kernel
theorem wi_MO_ok : ∀ w ∈ u_ws "CodePointSetsModel" wT_MO 16, w ∈ wWL := by
  show ∀ w ∈ [u_lay "CodePointSetsModel" wT_MO 0, u_lay "CodePointSetsModel" wT_MO 1, u_lay "CodePointSetsModel" wT_MO 2, u_lay "CodePointSetsModel" wT_MO 3, u_lay "CodePointSetsModel" wT_MO 4, u_lay "CodePointSetsModel" wT_MO 5, u_lay "CodePointSetsModel" wT_MO 6, u_lay "CodePointSetsModel" wT_MO 7, u_lay "CodePointSetsModel" wT_MO 8, u_lay "CodePointSetsModel" wT_MO 9, u_lay "CodePointSetsModel" wT_MO 10, u_lay "CodePointSetsModel" wT_MO 11, u_lay "CodePointSetsModel" wT_MO 12, u_lay "CodePointSetsModel" wT_MO 13, u_lay "CodePointSetsModel" wT_MO 14, u_lay "CodePointSetsModel" wT_MO 15], w ∈ wWL
  exact List.forall_mem_cons.mpr ⟨wIn 670 (by decide +kernel) (by decide +kernel), List.forall_mem_cons.mpr ⟨wIn 672 (by decide +kernel) (by decide +kernel), List.forall_mem_cons.mpr ⟨wIn 674 (by decide +kernel) (by decide +kernel), List.forall_mem_cons.mpr ⟨wIn 676 (by decide +kernel) (by decide +kernel), List.forall_mem_cons.mpr ⟨wIn 678 (by decide +kernel) (by decide +kernel), List.forall_mem_cons.mpr ⟨wIn 680 (by decide +kernel) (by decide +kernel), List.forall_mem_cons.mpr ⟨wIn 682 (by decide +kernel) (by decide +kernel), List.forall_mem_cons.mpr ⟨wIn 684 (by decide +kernel) (by decide +kernel), List.forall_mem_cons.mpr ⟨wIn 686 (by decide +kernel) (by decide +kernel), List.forall_mem_cons.mpr ⟨wIn 688 (by decide +kernel) (by decide +kernel), List.forall_mem_cons.mpr ⟨wIn 690 (by decide +kernel) (by decide +kernel), List.forall_mem_cons.mpr ⟨wIn 692 (by decide +kernel) (by decide +kernel), List.forall_mem_cons.mpr ⟨wIn 694 (by decide +kernel) (by decide +kernel), List.forall_mem_cons.mpr ⟨wIn 696 (by decide +kernel) (by decide +kernel), List.forall_mem_cons.mpr ⟨wIn 698 (by decide +kernel) (by decide +kernel), List.forall_mem_cons.mpr ⟨wIn 700 (by decide +kernel) (by decide +kernel), fun _ h => absurd h List.not_mem_nil⟩⟩⟩⟩⟩⟩⟩⟩⟩⟩⟩⟩⟩⟩⟩⟩
abbrev wcl : List vw_C := [("CodePointSets$CodeRow", wT_CR, 2), ("CodePointSets$MemberSet", wT_MS, 4), ("CodePointSets$OpenBracket", wT_OB, 5), ("CodePointSets$PatternReader", wT_PR, 7), ("CodePointSets$PatternWriter", wT_PW, 2), ("CodePointSets$TokenRow", wT_TR, 6), ("CodePointSets", wT_CP, 6), ("CodePointSetsModel", wT_MO, 16)]
def wct : Nat → Nat → FieldType := fun c => match c with
  | 0 => wy_CR
  | 1 => wy_MS
  | 2 => wy_OB
  | 3 => wy_PR
  | 4 => wy_PW
  | 5 => wy_TR
  | 6 => wy_CP
  | _ => wy_MO
theorem wcl_in : ∀ (ci : Nat) (r : vw_C), wcl[ci]? = some r → ∀ w ∈ u_ws r.1 r.2.1 r.2.2, w ∈ wWL := by
  intro ci r h
  match ci, h with
  | 0, h =>
    have e : ("CodePointSets$CodeRow", wT_CR, 2) = r := Option.some.inj h
    subst e
    exact wi_CR_ok
  | 1, h =>
    have e : ("CodePointSets$MemberSet", wT_MS, 4) = r := Option.some.inj h
    subst e
    exact wi_MS_ok
  | 2, h =>
    have e : ("CodePointSets$OpenBracket", wT_OB, 5) = r := Option.some.inj h
    subst e
    exact wi_OB_ok
  | 3, h =>
    have e : ("CodePointSets$PatternReader", wT_PR, 7) = r := Option.some.inj h
    subst e
    exact wi_PR_ok
  | 4, h =>
    have e : ("CodePointSets$PatternWriter", wT_PW, 2) = r := Option.some.inj h
    subst e
    exact wi_PW_ok
  | 5, h =>
    have e : ("CodePointSets$TokenRow", wT_TR, 6) = r := Option.some.inj h
    subst e
    exact wi_TR_ok
  | 6, h =>
    have e : ("CodePointSets", wT_CP, 6) = r := Option.some.inj h
    subst e
    exact wi_CP_ok
  | 7, h =>
    have e : ("CodePointSetsModel", wT_MO, 16) = r := Option.some.inj h
    subst e
    exact wi_MO_ok
  | n + 8, h => exact absurd h (by simp [wcl])
theorem wct_ok : ∀ (ci : Nat) (r : vw_C), wcl[ci]? = some r → ∀ k, k < r.2.2 → parseFieldDescriptor (r.2.1 k).2.2.1 = some (wct ci k) := by
  intro ci r h
  match ci, h with
  | 0, h =>
    have e : ("CodePointSets$CodeRow", wT_CR, 2) = r := Option.some.inj h
    subst e
    exact wy_CR_ok
  | 1, h =>
    have e : ("CodePointSets$MemberSet", wT_MS, 4) = r := Option.some.inj h
    subst e
    exact wy_MS_ok
  | 2, h =>
    have e : ("CodePointSets$OpenBracket", wT_OB, 5) = r := Option.some.inj h
    subst e
    exact wy_OB_ok
  | 3, h =>
    have e : ("CodePointSets$PatternReader", wT_PR, 7) = r := Option.some.inj h
    subst e
    exact wy_PR_ok
  | 4, h =>
    have e : ("CodePointSets$PatternWriter", wT_PW, 2) = r := Option.some.inj h
    subst e
    exact wy_PW_ok
  | 5, h =>
    have e : ("CodePointSets$TokenRow", wT_TR, 6) = r := Option.some.inj h
    subst e
    exact wy_TR_ok
  | 6, h =>
    have e : ("CodePointSets", wT_CP, 6) = r := Option.some.inj h
    subst e
    exact wy_CP_ok
  | 7, h =>
    have e : ("CodePointSetsModel", wT_MO, 16) = r := Option.some.inj h
    subst e
    exact wy_MO_ok
  | n + 8, h => exact absurd h (by simp [wcl])
theorem wcn_ok : ∀ (ci : Nat) (r : vw_C), wcl[ci]? = some r → ∀ a, a < r.2.2 → ∀ b, b < r.2.2 → a ≠ b → (r.2.1 a).2.1 ≠ (r.2.1 b).2.1 := by
  intro ci r h
  match ci, h with
  | 0, h =>
    have e : ("CodePointSets$CodeRow", wT_CR, 2) = r := Option.some.inj h
    subst e
    exact wn_CR_ok
  | 1, h =>
    have e : ("CodePointSets$MemberSet", wT_MS, 4) = r := Option.some.inj h
    subst e
    exact wn_MS_ok
  | 2, h =>
    have e : ("CodePointSets$OpenBracket", wT_OB, 5) = r := Option.some.inj h
    subst e
    exact wn_OB_ok
  | 3, h =>
    have e : ("CodePointSets$PatternReader", wT_PR, 7) = r := Option.some.inj h
    subst e
    exact wn_PR_ok
  | 4, h =>
    have e : ("CodePointSets$PatternWriter", wT_PW, 2) = r := Option.some.inj h
    subst e
    exact wn_PW_ok
  | 5, h =>
    have e : ("CodePointSets$TokenRow", wT_TR, 6) = r := Option.some.inj h
    subst e
    exact wn_TR_ok
  | 6, h =>
    have e : ("CodePointSets", wT_CP, 6) = r := Option.some.inj h
    subst e
    exact wn_CP_ok
  | 7, h =>
    have e : ("CodePointSetsModel", wT_MO, 16) = r := Option.some.inj h
    subst e
    exact wn_MO_ok
  | n + 8, h => exact absurd h (by simp [wcl])
def wfn (ci k : Nat) : Bool := match wcl[ci]? with
  | some r => (r.2.1 k).2.2.2
  | none => true
theorem wfn_ok (ci : Nat) (r : vw_C) (h : wcl[ci]? = some r) (k : Nat) (hf : wfn ci k = false) : (r.2.1 k).2.2.2 = false := by
  unfold wfn at hf
  rw [h] at hf
  exact hf
def wff (ci k : Nat) (own : String) : Bool := match wcl[ci]? with
  | some r => (r.2.1 k).2.2.2 && (r.2.1 k).1 == own
  | none => false
theorem wff_ok (ci : Nat) (r : vw_C) (h : wcl[ci]? = some r) (k : Nat) (own : String) (hf : wff ci k own = true) : (r.2.1 k).2.2.2 = true ∧ (r.2.1 k).1 = own := by
  unfold wff at hf
  rw [h] at hf
  simpa using hf
def wNF : List (String × Nat × String × String × String × String) := [("CodePointSets$NamedSets", 31, "CodePointSets$CodeRow", "codes", "[I", "CodePointSets"), ("CodePointSets$NamedSets", 19, "CodePointSets$CodeRow", "count", "I", "CodePointSets"), ("CodePointSets", 54, "CodePointSets$CodeRow", "count", "I", "CodePointSets"), ("CodePointSets$TokenRow", 46, "CodePointSets$CodeRow", "count", "I", "CodePointSets"), ("CodePointSets$PatternWriter", 35, "CodePointSets$MemberSet", "edges", "[I", "CodePointSets"), ("CodePointSets", 130, "CodePointSets$MemberSet", "edges", "[I", "CodePointSets"), ("CodePointSets$PatternWriter", 29, "CodePointSets$MemberSet", "edgeCount", "I", "CodePointSets"), ("CodePointSets", 127, "CodePointSets$MemberSet", "edgeCount", "I", "CodePointSets"), ("CodePointSets$PatternWriter", 46, "CodePointSets$MemberSet", "keys", "[J", "CodePointSets"), ("CodePointSets$PatternWriter", 43, "CodePointSets$MemberSet", "stringCount", "I", "CodePointSets"), ("CodePointSets$PatternReader", 95, "CodePointSets$MemberSet", "stringCount", "I", "CodePointSets"), ("CodePointSets", 104, "CodePointSets$MemberSet", "stringCount", "I", "CodePointSets"), ("CodePointSets$PatternReader", 45, "CodePointSets$TokenRow", "count", "I", "CodePointSets"), ("CodePointSets$PatternReader", 94, "CodePointSets$OpenBracket", "value", "LCodePointSets$MemberSet;", "CodePointSets"), ("CodePointSets$PatternReader", 90, "CodePointSets$OpenBracket", "others", "Z", "CodePointSets"), ("CodePointSets$PatternReader", 131, "CodePointSets$OpenBracket", "itemCount", "I", "CodePointSets"), ("CodePointSets$PatternReader", 134, "CodePointSets$OpenBracket", "behindSet", "Z", "CodePointSets"), ("CodePointSets$PatternReader", 137, "CodePointSets$OpenBracket", "how", "I", "CodePointSets"), ("CodePointSets", 66, "CodePointSets$PatternReader", "tokens", "LCodePointSets$TokenRow;", "CodePointSets"), ("CodePointSets", 80, "CodePointSets$PatternReader", "value", "LCodePointSets$MemberSet;", "CodePointSets"), ("CodePointSets", 91, "CodePointSets$PatternWriter", "row", "LCodePointSets$CodeRow;", "CodePointSets")]
def wNM : List (String × Nat × MethodName × String) := [("CodePointSets", 9, ⟨"CodePointSets$CodeRow", "<init>", "()V"⟩, "CodePointSets"), ("CodePointSets", 22, ⟨"CodePointSets$MemberSet", "<init>", "()V"⟩, "CodePointSets"), ("CodePointSets$PatternReader", 11, ⟨"CodePointSets$TokenRow", "<init>", "()V"⟩, "CodePointSets"), ("CodePointSets$TokenRow", 11, ⟨"CodePointSets$CodeRow", "<init>", "()V"⟩, "CodePointSets"), ("CodePointSets$PatternReader", 26, ⟨"CodePointSets$MemberSet", "<init>", "()V"⟩, "CodePointSets"), ("CodePointSets$PatternReader", 37, ⟨"CodePointSets$OpenBracket", "<init>", "()V"⟩, "CodePointSets"), ("CodePointSets$OpenBracket", 11, ⟨"CodePointSets$MemberSet", "<init>", "()V"⟩, "CodePointSets"), ("CodePointSets", 32, ⟨"CodePointSets$PatternWriter", "<init>", "()V"⟩, "CodePointSets"), ("CodePointSets$PatternWriter", 11, ⟨"CodePointSets$CodeRow", "<init>", "()V"⟩, "CodePointSets"), ("CodePointSets$TokenRow", 88, ⟨"CodePointSets", "isCodePoint", "(I)Z"⟩, "CodePointSets")]
/-- the tables of ints: class, field, number -/
def wSF : List (String × String × Nat) := [("CodePointSets$NamedSets", "ANY", 0), ("CodePointSets$NamedSets", "ASCII", 1), ("CodePointSets$NamedSets", "DIGIT", 2), ("CodePointSets$NamedSets", "HEX_DIGIT", 3), ("CodePointSets$NamedSets", "UPPER", 4), ("CodePointSets$NamedSets", "LOWER", 5), ("CodePointSets$NamedSets", "LETTER", 6), ("CodePointSets$NamedSets", "GREEK", 7), ("CodePointSets$NamedSets", "SPACE", 8), ("CodePointSets$NamedSets", "SURROGATE", 9), ("CodePointSets$CaseRules", "CASED", 10), ("CodePointSets$CaseRules", "LARGE", 11), ("CodePointSets$CaseRules", "TRIPLES", 12)]
def wSS : List (String × Nat × String × Nat) := [("CodePointSets$NamedSets", 39, "any", 0), ("CodePointSets$NamedSets", 41, "ascii", 1), ("CodePointSets$NamedSets", 43, "digit", 2), ("CodePointSets$NamedSets", 45, "hexdigit", 3), ("CodePointSets$NamedSets", 47, "upper", 4), ("CodePointSets$NamedSets", 49, "lower", 5), ("CodePointSets$NamedSets", 51, "letter", 6), ("CodePointSets$NamedSets", 53, "greek", 7), ("CodePointSets$NamedSets", 55, "space", 8), ("CodePointSets$NamedSets", 57, "surrogate", 9)]
def wSN : Nat := 10
def wSl : List Nat := [3, 5, 5, 8, 5, 5, 6, 5, 5, 9]
def wSb : List (List Int32) := [[97, 110, 121], [97, 115, 99, 105, 105], [100, 105, 103, 105, 116], [104, 101, 120, 100, 105, 103, 105, 116], [117, 112, 112, 101, 114], [108, 111, 119, 101, 114], [108, 101, 116, 116, 101, 114], [103, 114, 101, 101, 107], [115, 112, 97, 99, 101], [115, 117, 114, 114, 111, 103, 97, 116, 101]]
def wAO : List String := ["CodePointSets$MemberSet", "CodePointSets$OpenBracket"]
end
section
/-! sets of numbers as rising lists of edges: a number is in the set behind an odd number of edges -/
def eCnt (E : List Nat) (c : Nat) : Nat := (E.filter (fun e => decide (e ≤ c))).length
def eMem (E : List Nat) (c : Nat) : Bool := eCnt E c % 2 == 1
def eAsc (E : List Nat) : Prop := E.Pairwise (· < ·)
theorem eCnt_nil (c : Nat) : eCnt [] c = 0 := rfl
theorem eCnt_cons (e : Nat) (E : List Nat) (c : Nat) : eCnt (e :: E) c = (if e ≤ c then 1 else 0) + eCnt E c := by
  unfold eCnt
  by_cases h : e ≤ c
  · simp [h]
    omega
  · simp [h]
theorem eCnt_append (E F : List Nat) (c : Nat) : eCnt (E ++ F) c = eCnt E c + eCnt F c := by
  unfold eCnt
  rw [List.filter_append, List.length_append]
theorem eCnt_low {E : List Nat} {c : Nat} (h : ∀ e ∈ E, c < e) : eCnt E c = 0 := by
  unfold eCnt
  rw [List.length_eq_zero_iff, List.filter_eq_nil_iff]
  intro e he
  have := h e he
  simp
  omega
theorem eCnt_high {E : List Nat} {c : Nat} (h : ∀ e ∈ E, e ≤ c) : eCnt E c = E.length := by
  unfold eCnt
  rw [List.filter_eq_self.mpr]
  intro e he
  simpa using h e he
theorem eCnt_le (E : List Nat) (c : Nat) : eCnt E c ≤ E.length := by
  unfold eCnt
  exact List.length_filter_le _ _
theorem eMem_iff (E : List Nat) (c : Nat) : eMem E c = true ↔ eCnt E c % 2 = 1 := by
  unfold eMem
  simp
theorem eAsc_cons {e : Nat} {E : List Nat} : eAsc (e :: E) ↔ (∀ x ∈ E, e < x) ∧ eAsc E := List.pairwise_cons
theorem eAsc_append {E F : List Nat} : eAsc (E ++ F) ↔ eAsc E ∧ eAsc F ∧ ∀ a ∈ E, ∀ b ∈ F, a < b := List.pairwise_append
/-- two rising lists with the same members are one -/
theorem eCanon : ∀ (E F : List Nat), eAsc E → eAsc F → (∀ c, eMem E c = eMem F c) → E = F
  | [], [], _, _, _ => rfl
  | [], f :: F, _, hF, h => by
    exfalso
    have h1 := h f
    have h2 : eCnt (f :: F) f = 1 := by
      rw [eCnt_cons, eCnt_low (fun e he => (eAsc_cons.mp hF).1 e he)]
      simp
    simp [eMem, eCnt_nil, h2] at h1
  | e :: E, [], hE, _, h => by
    exfalso
    have h1 := h e
    have h2 : eCnt (e :: E) e = 1 := by
      rw [eCnt_cons, eCnt_low (fun x hx => (eAsc_cons.mp hE).1 x hx)]
      simp
    simp [eMem, eCnt_nil, h2] at h1
  | e :: E, f :: F, hE, hF, h => by
    obtain ⟨hE1, hE2⟩ := eAsc_cons.mp hE
    obtain ⟨hF1, hF2⟩ := eAsc_cons.mp hF
    have hef : e = f := by
      rcases Nat.lt_trichotomy e f with hl | hl | hl
      · exfalso
        have h1 := h e
        have h2 : eCnt (e :: E) e = 1 := by
          rw [eCnt_cons, eCnt_low hE1]
          simp
        have h3 : eCnt (f :: F) e = 0 := eCnt_low (fun x hx => by
          rcases List.mem_cons.mp hx with rfl | hx
          · exact hl
          · exact Nat.lt_trans hl (hF1 x hx))
        simp [eMem, h2, h3] at h1
      · exact hl
      · exfalso
        have h1 := h f
        have h2 : eCnt (f :: F) f = 1 := by
          rw [eCnt_cons, eCnt_low hF1]
          simp
        have h3 : eCnt (e :: E) f = 0 := eCnt_low (fun x hx => by
          rcases List.mem_cons.mp hx with rfl | hx
          · exact hl
          · exact Nat.lt_trans hl (hE1 x hx))
        simp [eMem, h2, h3] at h1
    subst hef
    congr 1
    refine eCanon E F hE2 hF2 (fun c => ?_)
    by_cases hc : e ≤ c
    · have h1 := h c
      unfold eMem at h1 ⊢
      rw [eCnt_cons, eCnt_cons, if_pos hc] at h1
      have hb : ((1 + eCnt E c) % 2 = 1) ↔ ((1 + eCnt F c) % 2 = 1) := by
        constructor
        · intro q
          rw [q] at h1
          simpa using h1.symm
        · intro q
          rw [q] at h1
          simpa using h1
      by_cases q : eCnt E c % 2 = 1
      · have q2 : eCnt F c % 2 = 1 := by
          rcases Nat.mod_two_eq_zero_or_one (eCnt F c) with z | z
          · have := hb.mpr (by omega)
            omega
          · exact z
        rw [q, q2]
      · have q2 : ¬ eCnt F c % 2 = 1 := by
          intro z
          have := hb.mp (by omega)
          omega
        have q3 : eCnt E c % 2 = 0 := by omega
        have q4 : eCnt F c % 2 = 0 := by omega
        rw [q3, q4]
    · have h1 : eCnt E c = 0 := eCnt_low (fun x hx => by have := hE1 x hx; omega)
      have h2 : eCnt F c = 0 := eCnt_low (fun x hx => by have := hF1 x hx; omega)
      unfold eMem
      rw [h1, h2]
/-- the four ways -/
def eDec (how : Nat) (a b : Bool) : Bool := match how with
  | 0 => a || b
  | 1 => a && b
  | 2 => a && !b
  | _ => a != b
theorem eDec_ff (how : Nat) : eDec how false false = false := by
  unfold eDec
  split <;> rfl
def eOdd (n : Nat) : Bool := n % 2 == 1
theorem eAsc_lt {L : List Nat} (h : eAsc L) {a b y z : Nat} (hab : a < b) (hy : L[a]? = some y) (hz : L[b]? = some z) : y < z := by
  obtain ⟨h1, h2⟩ := List.getElem?_eq_some_iff.mp hy
  obtain ⟨h3, h4⟩ := List.getElem?_eq_some_iff.mp hz
  have := List.pairwise_iff_getElem.mp h a b h1 h3 hab
  rw [h2, h4] at this
  exact this
theorem eTake_succ {L : List Nat} {i x : Nat} (h : L[i]? = some x) : L.take (i + 1) = L.take i ++ [x] := by
  rw [List.take_add_one, h]
  rfl
theorem eMem_take {L : List Nat} {i y : Nat} (h : y ∈ L.take i) : ∃ a, a < i ∧ L[a]? = some y := by
  obtain ⟨a, ha⟩ := List.getElem?_of_mem h
  by_cases hi : a < i
  · rw [List.getElem?_take_of_lt hi] at ha
    exact ⟨a, hi, ha⟩
  · rw [List.getElem?_take_eq_none (by omega)] at ha
    cases ha
/-- where two rising lists are merged, i and j edges behind: what has been laid is the set of the two beginnings -/
def eInv (how : Nat) (L R : List Nat) (i j : Nat) (ins : Bool) (acc : List Nat) : Prop :=
  i ≤ L.length ∧ j ≤ R.length ∧ eAsc acc ∧ ins = eDec how (eOdd i) (eOdd j) ∧ eOdd acc.length = ins ∧ acc.length ≤ i + j ∧
  (∀ a y b z, a < i → L[a]? = some y → j ≤ b → R[b]? = some z → y < z) ∧ (∀ a y b z, a < j → R[a]? = some y → i ≤ b → L[b]? = some z → y < z) ∧
  (∀ a ∈ acc, (a ∈ L.take i ∨ a ∈ R.take j)) ∧ ∀ c, eMem acc c = eDec how (eMem (L.take i) c) (eMem (R.take j) c)
theorem eInv_0 (how : Nat) (L R : List Nat) : eInv how L R 0 0 false [] := by
  refine ⟨Nat.zero_le _, Nat.zero_le _, List.Pairwise.nil, ?_, rfl, Nat.le_refl _, fun a y b z h => (by omega), fun a y b z h => (by omega), fun a h => (by cases h), fun c => ?_⟩
  · rw [show eOdd 0 = false from rfl, eDec_ff]
  · rw [List.take_zero, List.take_zero, show eMem [] c = false from rfl, eDec_ff]
theorem eMem_all {L : List Nat} {i c : Nat} (hi : i ≤ L.length) (h : ∀ a y, a < i → L[a]? = some y → y ≤ c) : eMem (L.take i) c = eOdd i := by
  unfold eMem eOdd
  rw [eCnt_high (fun e he => by obtain ⟨a, h1, h2⟩ := eMem_take he; exact h a e h1 h2), List.length_take, Nat.min_eq_left hi]
theorem eMem_snoc {E : List Nat} {x c : Nat} (h : c < x) : eMem (E ++ [x]) c = eMem E c := by
  unfold eMem
  rw [eCnt_append, eCnt_low (E := [x]) (fun e he => by rw [List.mem_singleton] at he; omega)]
  rfl
theorem eInv_step {how : Nat} {L R : List Nat} {i j i' j' x : Nat} {ins : Bool} {acc : List Nat} (hL : eAsc L) (hR : eAsc R) (inv : eInv how L R i j ins acc)
    (hi : (i' = i ∧ ∀ z, L[i]? = some z → x < z) ∨ (i' = i + 1 ∧ L[i]? = some x)) (hj : (j' = j ∧ ∀ z, R[j]? = some z → x < z) ∨ (j' = j + 1 ∧ R[j]? = some x)) (hne : i' ≠ i ∨ j' ≠ j) :
    eInv how L R i' j' (eDec how (eOdd i') (eOdd j')) (if eDec how (eOdd i') (eOdd j') = ins then acc else acc ++ [x]) := by
  obtain ⟨q1, q2, q3, q4, q5, q6, q7, q8, q9, q10⟩ := inv
  have hi1 : i' ≤ L.length := by
    rcases hi with ⟨rfl, -⟩ | ⟨rfl, hx⟩
    · exact q1
    · exact (List.getElem?_eq_some_iff.mp hx).1
  have hj1 : j' ≤ R.length := by
    rcases hj with ⟨rfl, -⟩ | ⟨rfl, hx⟩
    · exact q2
    · exact (List.getElem?_eq_some_iff.mp hx).1
  -- what is behind is below x
  have bL : ∀ a y, a < i → L[a]? = some y → y < x := by
    intro a y ha hy
    rcases hi with ⟨e1, hmin⟩ | ⟨rfl, hx⟩
    · rcases hj with ⟨e2, -⟩ | ⟨rfl, hx⟩
      · rcases hne with h | h <;> contradiction
      · exact q7 a y j x ha hy (Nat.le_refl _) hx
    · exact eAsc_lt hL ha hy hx
  have bR : ∀ a y, a < j → R[a]? = some y → y < x := by
    intro a y ha hy
    rcases hj with ⟨e1, hmin⟩ | ⟨rfl, hx⟩
    · rcases hi with ⟨e2, -⟩ | ⟨rfl, hx⟩
      · rcases hne with h | h <;> contradiction
      · exact q8 a y i x ha hy (Nat.le_refl _) hx
    · exact eAsc_lt hR ha hy hx
  have bL' : ∀ a y, a < i' → L[a]? = some y → y ≤ x := by
    intro a y ha hy
    rcases hi with ⟨rfl, -⟩ | ⟨rfl, hx⟩
    · exact Nat.le_of_lt (bL a y ha hy)
    · by_cases hai : a = i
      · subst hai
        rw [hx] at hy
        cases hy
        exact Nat.le_refl _
      · exact Nat.le_of_lt (bL a y (by omega) hy)
  have bR' : ∀ a y, a < j' → R[a]? = some y → y ≤ x := by
    intro a y ha hy
    rcases hj with ⟨rfl, -⟩ | ⟨rfl, hx⟩
    · exact Nat.le_of_lt (bR a y ha hy)
    · by_cases hai : a = j
      · subst hai
        rw [hx] at hy
        cases hy
        exact Nat.le_refl _
      · exact Nat.le_of_lt (bR a y (by omega) hy)
  -- what is ahead is above x
  have aL : ∀ b z, i' ≤ b → L[b]? = some z → x < z := by
    intro b z hb hz
    rcases hi with ⟨rfl, hmin⟩ | ⟨rfl, hx⟩
    · by_cases hbi : b = i'
      · subst hbi
        exact hmin z hz
      · obtain ⟨h1, -⟩ := List.getElem?_eq_some_iff.mp hz
        have hlt : i' < L.length := by omega
        have h2 := hmin _ (List.getElem?_eq_getElem hlt)
        exact Nat.lt_trans h2 (eAsc_lt hL (by omega) (List.getElem?_eq_getElem hlt) hz)
    · exact eAsc_lt hL (by omega) hx hz
  have aR : ∀ b z, j' ≤ b → R[b]? = some z → x < z := by
    intro b z hb hz
    rcases hj with ⟨rfl, hmin⟩ | ⟨rfl, hx⟩
    · by_cases hbi : b = j'
      · subst hbi
        exact hmin z hz
      · obtain ⟨h1, -⟩ := List.getElem?_eq_some_iff.mp hz
        have hlt : j' < R.length := by omega
        have h2 := hmin _ (List.getElem?_eq_getElem hlt)
        exact Nat.lt_trans h2 (eAsc_lt hR (by omega) (List.getElem?_eq_getElem hlt) hz)
    · exact eAsc_lt hR (by omega) hx hz
  have accLt : ∀ a ∈ acc, a < x := by
    intro a ha
    rcases q9 a ha with h | h
    · obtain ⟨k, h1, h2⟩ := eMem_take h
      exact bL k a h1 h2
    · obtain ⟨k, h1, h2⟩ := eMem_take h
      exact bR k a h1 h2
  have subL : ∀ a, a ∈ L.take i → a ∈ L.take i' := by
    intro a ha
    rcases hi with ⟨rfl, -⟩ | ⟨rfl, hx⟩
    · exact ha
    · rw [eTake_succ hx]
      exact List.mem_append_left _ ha
  have subR : ∀ a, a ∈ R.take j → a ∈ R.take j' := by
    intro a ha
    rcases hj with ⟨rfl, -⟩ | ⟨rfl, hx⟩
    · exact ha
    · rw [eTake_succ hx]
      exact List.mem_append_left _ ha
  have xin : x ∈ L.take i' ∨ x ∈ R.take j' := by
    rcases hi with ⟨e1, -⟩ | ⟨rfl, hx⟩
    · rcases hj with ⟨e2, -⟩ | ⟨rfl, hx⟩
      · rcases hne with h | h <;> contradiction
      · right
        rw [eTake_succ hx]
        exact List.mem_append_right _ (List.mem_singleton.mpr rfl)
    · left
      rw [eTake_succ hx]
      exact List.mem_append_right _ (List.mem_singleton.mpr rfl)
  have lowL : ∀ c, c < x → eMem (L.take i') c = eMem (L.take i) c := by
    intro c hc
    rcases hi with ⟨rfl, -⟩ | ⟨rfl, hx⟩
    · rfl
    · rw [eTake_succ hx, eMem_snoc hc]
  have lowR : ∀ c, c < x → eMem (R.take j') c = eMem (R.take j) c := by
    intro c hc
    rcases hj with ⟨rfl, -⟩ | ⟨rfl, hx⟩
    · rfl
    · rw [eTake_succ hx, eMem_snoc hc]
  have highL : ∀ c, x ≤ c → eMem (L.take i') c = eOdd i' := fun c hc => eMem_all hi1 (fun a y ha hy => Nat.le_trans (bL' a y ha hy) hc)
  have highR : ∀ c, x ≤ c → eMem (R.take j') c = eOdd j' := fun c hc => eMem_all hj1 (fun a y ha hy => Nat.le_trans (bR' a y ha hy) hc)
  have cross1 : ∀ a y b z, a < i' → L[a]? = some y → j' ≤ b → R[b]? = some z → y < z := fun a y b z ha hy hb hz => Nat.lt_of_le_of_lt (bL' a y ha hy) (aR b z hb hz)
  have cross2 : ∀ a y b z, a < j' → R[a]? = some y → i' ≤ b → L[b]? = some z → y < z := fun a y b z ha hy hb hz => Nat.lt_of_le_of_lt (bR' a y ha hy) (aL b z hb hz)
  have hcnt : i + j + 1 ≤ i' + j' := by
    rcases hi with ⟨rfl, -⟩ | ⟨rfl, -⟩ <;> rcases hj with ⟨rfl, -⟩ | ⟨rfl, -⟩
    · rcases hne with h | h <;> contradiction
    · omega
    · omega
    · omega
  have accHigh : ∀ c, x ≤ c → eMem acc c = ins := by
    intro c hc
    unfold eMem
    rw [eCnt_high (fun e he => Nat.le_of_lt (Nat.lt_of_lt_of_le (accLt e he) hc))]
    exact q5
  by_cases hk : eDec how (eOdd i') (eOdd j') = ins
  · rw [if_pos hk]
    refine ⟨hi1, hj1, q3, rfl, by rw [hk]; exact q5, by omega, cross1, cross2, fun a ha => ?_, fun c => ?_⟩
    · rcases q9 a ha with h | h
      · exact Or.inl (subL a h)
      · exact Or.inr (subR a h)
    · by_cases hc : x ≤ c
      · rw [highL c hc, highR c hc, hk]
        exact accHigh c hc
      · rw [lowL c (by omega), lowR c (by omega)]
        exact q10 c
  · rw [if_neg hk]
    refine ⟨hi1, hj1, ?_, rfl, ?_, ?_, cross1, cross2, fun a ha => ?_, fun c => ?_⟩
    · refine eAsc_append.mpr ⟨q3, List.pairwise_singleton _ _, fun a ha b hb => ?_⟩
      rw [List.mem_singleton] at hb
      rw [hb]
      exact accLt a ha
    · rw [List.length_append, List.length_singleton]
      have h1 : eOdd (acc.length + 1) = !eOdd acc.length := by
        unfold eOdd
        rcases Nat.mod_two_eq_zero_or_one acc.length with z | z
        · rw [z, show (acc.length + 1) % 2 = 1 by omega]
          rfl
        · rw [z, show (acc.length + 1) % 2 = 0 by omega]
          rfl
      rw [h1, q5]
      cases hx : eDec how (eOdd i') (eOdd j') <;> cases hy : ins <;> simp_all
    · rw [List.length_append, List.length_singleton]
      omega
    · rcases List.mem_append.mp ha with h | h
      · rcases q9 a h with h | h
        · exact Or.inl (subL a h)
        · exact Or.inr (subR a h)
      · rw [List.mem_singleton] at h
        rw [h]
        exact xin
    · by_cases hc : x ≤ c
      · rw [highL c hc, highR c hc]
        have h2 : eCnt (acc ++ [x]) c = acc.length + 1 := by
          rw [eCnt_high (fun e he => ?_), List.length_append, List.length_singleton]
          rcases List.mem_append.mp he with h | h
          · exact Nat.le_of_lt (Nat.lt_of_lt_of_le (accLt e h) hc)
          · rw [List.mem_singleton] at h
            rw [h]
            exact hc
        have h3 : eMem (acc ++ [x]) c = !ins := by
          rw [← q5]
          unfold eMem eOdd
          rw [h2]
          rcases Nat.mod_two_eq_zero_or_one acc.length with z | z
          · rw [z, show (acc.length + 1) % 2 = 1 by omega]
            rfl
          · rw [z, show (acc.length + 1) % 2 = 0 by omega]
            rfl
        rw [h3]
        cases hx : eDec how (eOdd i') (eOdd j') <;> cases hy : ins <;> simp_all
      · rw [lowL c (by omega), lowR c (by omega), eMem_snoc (by omega)]
        exact q10 c
theorem eInv_end {how : Nat} {L R : List Nat} {ins : Bool} {acc : List Nat} (inv : eInv how L R L.length R.length ins acc) : eAsc acc ∧ acc.length ≤ L.length + R.length ∧ (∀ a ∈ acc, a ∈ L ∨ a ∈ R) ∧ ∀ c, eMem acc c = eDec how (eMem L c) (eMem R c) := by
  obtain ⟨q1, q2, q3, q4, q5, q6, q7, q8, q9, q10⟩ := inv
  rw [List.take_length, List.take_length] at q10
  rw [List.take_length, List.take_length] at q9
  exact ⟨q3, q6, q9, q10⟩
theorem eCnt_iff : ∀ {E : List Nat} (_ : eAsc E) {m y c : Nat} (_ : E[m]? = some y), y ≤ c ↔ m < eCnt E c
  | [], _, m, y, c, hy => by simp at hy
  | e :: E, h, 0, y, c, hy => by
    rw [List.getElem?_cons_zero] at hy
    cases hy
    rw [eCnt_cons]
    by_cases hc : e ≤ c
    · rw [if_pos hc]
      exact ⟨fun _ => by omega, fun _ => hc⟩
    · rw [if_neg hc, eCnt_low (fun x hx => by have := (eAsc_cons.mp h).1 x hx; omega)]
      exact ⟨fun z => absurd z hc, fun z => by omega⟩
  | e :: E, h, m + 1, y, c, hy => by
    rw [List.getElem?_cons_succ] at hy
    obtain ⟨h1, h2⟩ := eAsc_cons.mp h
    have ih := eCnt_iff h2 hy (c := c)
    rw [eCnt_cons]
    by_cases hc : e ≤ c
    · rw [if_pos hc, ih]
      omega
    · have h3 : eCnt E c = 0 := eCnt_low (fun x hx => by have := h1 x hx; omega)
      have h4 := h1 y (List.mem_of_getElem? hy)
      rw [if_neg hc, h3]
      omega
/-- how many members -/
def eSize : List Nat → Nat
  | a :: b :: r => (b - a) + eSize r
  | _ => 0
/-- the member with i members below it -/
def eNth : List Nat → Nat → Option Nat
  | a :: b :: r, i => if i < b - a then some (a + i) else eNth r (i - (b - a))
  | _, _ => none
/-- an edge comes: it is laid behind the others, or takes the last one away -/
def eTog (E : List Nat) (x : Nat) : List Nat := if E.getLast? = some x then E.dropLast else E ++ [x]
def bI (b : Bool) : Int32 := if b then nI 1 else nI 0
theorem eDrop2 {E : List Nat} (hA : eAsc E) {i : Nat} (h : i + 1 < E.length) : ∃ a b, a < b ∧ E[i]? = some a ∧ E[i + 1]? = some b ∧ E.drop i = a :: b :: E.drop (i + 2) := by
  have h1 : i < E.length := by omega
  refine ⟨E[i], E[i + 1], eAsc_lt hA (Nat.lt_succ_self i) (List.getElem?_eq_getElem h1) (List.getElem?_eq_getElem h), List.getElem?_eq_getElem h1, List.getElem?_eq_getElem h, ?_⟩
  rw [List.drop_eq_getElem_cons h1, List.drop_eq_getElem_cons h]
theorem eSize_short {E : List Nat} (h : E.length ≤ 1) : eSize E = 0 := by
  match E, h with
  | [], _ => rfl
  | [a], _ => rfl
  | a :: b :: r, h => simp at h
theorem eNth_short {E : List Nat} {i : Nat} (h : E.length ≤ 1) : eNth E i = none := by
  match E, h with
  | [], _ => rfl
  | [a], _ => rfl
  | a :: b :: r, h => simp at h
theorem lg_cmp_self (x : Int64) : lg_cmp x x = 0 := by simp [lg_cmp]
theorem lg_cmp_0 {x y : Int64} (h : lg_cmp x y = 0) : x = y := by
  unfold lg_cmp at h
  split at h
  · exact absurd h (by decide)
  · split at h
    · assumption
    · exact absurd h (by decide)
end
section
/-! THE PURE SIDE. A cell has a PLACE (a number) instead of an address; a heap is the list of its cells; place k < 1000 lies at xz + k, a place from 1000 on is an old cell that nobody writes. -/
abbrev wE : Type := (Nat × vp_A) ⊕ (Nat × List Value)
abbrev wH : Type := List wE
/-- launch, class numbers and slots, array classes, addresses of the places, where the new cells begin, the tables of ints that nobody writes (the script is one) -/
abbrev wX : Type := Launch × va_G × (Nat → ClassId) × (Nat → Nat) × Nat × List (Nat × (Nat → Int32))
/-- a method: name, code, number of locals, what it returns -/
abbrev wM : Type := MethodName × ByteArray × Nat × Option FieldType
/-- what the end of a walk must be: frames below, arguments, start, number of cells at the start -/
abbrev wN : Type := List Frame → Array Value → State → Nat → State → Prop
def xl (X : wX) : Launch := X.1
def xD (X : wX) : va_G := X.2.1
def xc (X : wX) : Nat → ClassId := X.2.2.1
def xa (X : wX) : Nat → Nat := X.2.2.2.1
def xz (X : wX) : Nat := X.2.2.2.2.1
def xo (X : wX) : List (Nat × (Nat → Int32)) := X.2.2.2.2.2
def xA (X : wX) : Nat → Prop := fun q => xz X ≤ q
def wv (X : wX) : Value → Value
  | .ref k => .ref (xa X k)
  | .int x => .int x
  | .long x => .long x
  | .float x => .float x
  | .double x => .double x
  | .null => .null
  | .retAddr x => .retAddr x
theorem wv_cat (X : wX) (v : Value) : (wv X v).category = v.category := by cases v <;> rfl
theorem wv_rf (X : wX) (r : Option Nat) : wv X (va_rf r) = va_rf (r.map (xa X)) := by cases r <;> rfl
def wref : Value → Bool
  | .ref _ => true
  | .null => true
  | _ => false
theorem wref_or {v : Value} (h : wref v = true) : v = .null ∨ ∃ q, v = .ref q := by
  cases v with
  | null => exact Or.inl rfl
  | ref q => exact Or.inr ⟨q, rfl⟩
  | _ => simp [wref] at h
/-- an array's contents, by addresses -/
def wq (X : wX) (a : vp_A) : vp_A := match a with
  | (n, .inl f) => (n, .inl f)
  | (n, .inr (.inl f)) => (n, .inr (.inl f))
  | (n, .inr (.inr (.inl f))) => (n, .inr (.inr (.inl f)))
  | (n, .inr (.inr (.inr (.inl f)))) => (n, .inr (.inr (.inr (.inl f))))
  | (n, .inr (.inr (.inr (.inr f)))) => (n, .inr (.inr (.inr (.inr (fun i => (f i).map (xa X))))))
theorem wq_len (X : wX) (a : vp_A) : (wq X a).1 = a.1 := by
  obtain ⟨n, f | f | f | f | f⟩ := a <;> rfl
def we (X : wX) (e : wE) : va_E := match e with
  | .inl (t, a) => .inl (xc X t, wq X a)
  | .inr (c, fs) => .inr (c, fs.map (wv X))
def ww (X : wX) : Nat → wH → va_W
  | _, [] => []
  | k, e :: r => (xa X k, we X e) :: ww X (k + 1) r
theorem ww_get (X : wX) : ∀ (h : wH) (k i : Nat), (ww X k h)[i]? = (h[i]?).map (fun e => (xa X (k + i), we X e))
  | [], k, i => by simp [ww]
  | e :: r, k, 0 => by simp [ww]
  | e :: r, k, i + 1 => by
    have h := ww_get X r (k + 1) i
    rw [show k + 1 + i = k + (i + 1) by omega] at h
    simp only [ww, List.getElem?_cons_succ]
    exact h
theorem ww_at (X : wX) {h : wH} {q : Nat} {e : wE} (he : h[q]? = some e) : (ww X 0 h)[q]? = some (xa X q, we X e) := by
  rw [ww_get, he, Nat.zero_add]
  rfl
theorem ww_set (X : wX) : ∀ (h : wH) (k i : Nat) (e : wE), ww X k (h.set i e) = (ww X k h).set i (xa X (k + i), we X e)
  | [], k, i, e => by simp [ww]
  | a :: r, k, 0, e => by simp [ww]
  | a :: r, k, i + 1, e => by
    have h := ww_set X r (k + 1) i e
    rw [show k + 1 + i = k + (i + 1) by omega] at h
    simp only [ww, List.set_cons_succ]
    rw [h]
theorem ww_set0 (X : wX) (h : wH) (i : Nat) (e : wE) : ww X 0 (h.set i e) = (ww X 0 h).set i (xa X i, we X e) := by
  rw [ww_set, Nat.zero_add]
theorem ww_push (X : wX) : ∀ (h : wH) (k : Nat) (e : wE), ww X k (h ++ [e]) = ww X k h ++ [(xa X (k + h.length), we X e)]
  | [], k, e => by simp [ww]
  | a :: r, k, e => by
    have h := ww_push X r (k + 1) e
    rw [show k + 1 + r.length = k + (r.length + 1) by omega] at h
    simp only [ww, List.cons_append, List.length_cons]
    rw [h]
theorem ww_D {X : wX} (hok : ∀ k, k < 1000 → xa X k = xz X + k) {h : wH} (hl : h.length ≤ 1000) : va_D (xA X) (ww X 0 h) := by
  have key : ∀ (i : Nat) (p : Nat × va_E), (ww X 0 h)[i]? = some p → p.1 = xz X + i := by
    intro i p hp
    rw [ww_get, Nat.zero_add] at hp
    cases hi : h[i]? with
    | none => rw [hi] at hp; cases hp
    | some e =>
      rw [hi] at hp
      have hlt : i < h.length := (List.getElem?_eq_some_iff.mp hi).1
      cases hp
      exact hok i (by omega)
  refine ⟨fun i j p q hp hq e => ?_, fun k q hq => ?_⟩
  · have h1 := key i p hp
    have h2 := key j q hq
    omega
  · show xz X ≤ q.1
    rw [key k q hq]
    omega
/-! locals -/
def wll (X : wX) (pl : List (Option Value)) : List (Nat × Value) := (List.range pl.length).filterMap (fun i => (pl[i]?.join).map (fun v => (i, wv X v)))
theorem wll_mem {X : wX} {pl : List (Option Value)} {i : Nat} {w : Value} : (i, w) ∈ wll X pl ↔ ∃ v, pl[i]? = some (some v) ∧ wv X v = w := by
  unfold wll
  rw [List.mem_filterMap]
  constructor
  · rintro ⟨j, -, hj⟩
    cases hp : pl[j]? with
    | none => rw [hp] at hj; cases hj
    | some o =>
      cases o with
      | none => rw [hp] at hj; cases hj
      | some v =>
        rw [hp] at hj
        simp only [Option.join_some, Option.map_some, Option.some.injEq, Prod.mk.injEq] at hj
        obtain ⟨rfl, rfl⟩ := hj
        exact ⟨v, hp, rfl⟩
  · rintro ⟨v, hv, rfl⟩
    refine ⟨i, List.mem_range.mpr (List.getElem?_eq_some_iff.mp hv).1, ?_⟩
    rw [hv]
    rfl
theorem wl_at {X : wX} {ls : Array Slot} {nL : Nat} {pl : List (Option Value)} (h : lv_has ls nL (wll X pl)) {i : Nat} {v : Value} (hv : pl[i]? = some (some v)) : ls[i]? = some (.val (wv X v)) := h.2.2 (i, wv X v) (wll_mem.mpr ⟨v, hv, rfl⟩)
/-- a long below the place is gone -/
def wkill (pl : List (Option Value)) : Nat → List (Option Value)
  | 0 => pl
  | j + 1 => match pl[j]? with
    | some (some (.long _)) => pl.set j none
    | some (some (.double _)) => pl.set j none
    | _ => pl
def wst1 (pl : List (Option Value)) (i : Nat) (v : Value) : List (Option Value) := (wkill pl i).set i (some v)
def wst2 (pl : List (Option Value)) (i : Nat) (v : Value) : List (Option Value) := ((wkill pl i).set (i + 1) none).set i (some v)
theorem wkill_get {pl : List (Option Value)} {i j : Nat} {w : Value} (h : (wkill pl i)[j]? = some (some w)) : pl[j]? = some (some w) ∧ ¬ (j + 1 = i ∧ w.category = 2) := by
  cases i with
  | zero => exact ⟨h, fun q => by omega⟩
  | succ k =>
    by_cases hk : j = k
    · subst hk
      simp only [wkill] at h
      split at h
      · rw [List.getElem?_set] at h
        simp at h
      · rw [List.getElem?_set] at h
        simp at h
      · rename_i h1 h2
        refine ⟨h, fun q => ?_⟩
        cases w with
        | long x => exact h1 x h
        | double x => exact h2 x h
        | _ => simp [Value.category] at q
    · have : pl[j]? = some (some w) := by
        simp only [wkill] at h
        split at h
        · rwa [List.getElem?_set_ne (fun q => hk q.symm)] at h
        · rwa [List.getElem?_set_ne (fun q => hk q.symm)] at h
        · exact h
      exact ⟨this, fun q => hk (by omega)⟩
theorem wl_st1 {X : wX} {ls : Array Slot} {nL : Nat} {pl : List (Option Value)} {i : Nat} {v : Value} (h : lv_has ls nL ((i, wv X v) :: (wll X pl).filter (fun q => !(q.1 == i) && !(q.1 + 1 == i && q.2.category == 2)))) : lv_has ls nL (wll X (wst1 pl i v)) := by
  refine ⟨h.1, h.2.1, fun q hq => h.2.2 q ?_⟩
  obtain ⟨j, w0⟩ := q
  obtain ⟨w, hw, rfl⟩ := wll_mem.mp hq
  unfold wst1 at hw
  by_cases hj : j = i
  · subst hj
    rw [List.getElem?_set] at hw
    simp at hw
    rw [hw.2]
    exact List.mem_cons_self
  · rw [List.getElem?_set_ne (fun q => hj q.symm)] at hw
    obtain ⟨h1, h2⟩ := wkill_get hw
    refine List.mem_cons_of_mem _ (List.mem_filter.mpr ⟨wll_mem.mpr ⟨w, h1, rfl⟩, ?_⟩)
    have h3 : ¬ (j + 1 = i ∧ (wv X w).category = 2) := by rw [wv_cat]; exact h2
    simp [hj]
    exact Decidable.not_and_iff_or_not.mp h3
theorem wl_st2 {X : wX} {ls : Array Slot} {nL : Nat} {pl : List (Option Value)} {i : Nat} {v : Value} (h : lv_has ls nL ((i, wv X v) :: (wll X pl).filter (fun q => !(q.1 == i) && (!(q.1 == i + 1) && !(q.1 + 1 == i && q.2.category == 2))))) : lv_has ls nL (wll X (wst2 pl i v)) := by
  refine ⟨h.1, h.2.1, fun q hq => h.2.2 q ?_⟩
  obtain ⟨j, w0⟩ := q
  obtain ⟨w, hw, rfl⟩ := wll_mem.mp hq
  unfold wst2 at hw
  by_cases hj : j = i
  · subst hj
    rw [List.getElem?_set] at hw
    simp at hw
    rw [hw.2]
    exact List.mem_cons_self
  · rw [List.getElem?_set_ne (fun q => hj q.symm)] at hw
    by_cases hj2 : j = i + 1
    · subst hj2
      rw [List.getElem?_set] at hw
      simp at hw
    · rw [List.getElem?_set_ne (fun q => hj2 q.symm)] at hw
      obtain ⟨h1, h2⟩ := wkill_get hw
      refine List.mem_cons_of_mem _ (List.mem_filter.mpr ⟨wll_mem.mpr ⟨w, h1, rfl⟩, ?_⟩)
      have h3 : ¬ (j + 1 = i ∧ (wv X w).category = 2) := by rw [wv_cat]; exact h2
      simp [hj, hj2]
      exact Decidable.not_and_iff_or_not.mp h3
/-- a method's arguments as its locals -/
def wen : List Value → List (Option Value)
  | [] => []
  | .long x :: r => some (.long x) :: none :: wen r
  | .double x :: r => some (.double x) :: none :: wen r
  | v :: r => some v :: wen r
/-! what the tables and the old cells say, all along -/
def wty (X : wX) : List (ClassId × FieldType) := [(xc X 0, .int), (xc X 1, .long), (xc X 2, .boolean), (xc X 3, .object "CodePointSets$MemberSet"), (xc X 4, .object "CodePointSets$OpenBracket")]
def wK (X : wX) (U : State) : Prop :=
  (∀ k, k < 1000 → xa X k = xz X + k) ∧ va_K (xD X) wcl (wty X) U ∧ (∀ q ∈ wNF, va_Nw (.fieldLinkNest q.1 q.2.1 q.2.2.1 q.2.2.2.1 q.2.2.2.2.1 q.2.2.2.2.2) U) ∧ (∀ q ∈ wNM, va_Nw (.methodLinkNest q.1 q.2.1 q.2.2.1 q.2.2.2) U) ∧
  (∀ (i n : Nat) (f : Nat → Int32), (xo X)[i]? = some (n, f) → va_T .int (xa X (1000 + i)) n (fun j => .int (f j)) (xA X) U U.heap) ∧
  (∀ q ∈ wSF, va_Z q.1 q.2.1 "[I" (.ref (xa X (1000 + q.2.2))) (xA X) U U.heap) ∧
  (∀ q ∈ wSS, vk_R q.1 q.2.1 q.2.2.1 (xa X (1100 + q.2.2.2)) U) ∧ vk_S wSN wSl wSb (fun i => xa X (1100 + i)) (fun i => xa X (1200 + i)) (xA X) U U.heap ∧ (∀ C ∈ wAO, va_AO C U) ∧ va_Z "java/lang/String" "COMPACT_STRINGS" "Z" (.int 1) (xA X) U U.heap ∧
  (va_Z "jdk/internal/util/Preconditions" "SIOOBE_FORMATTER" "Ljava/util/function/BiFunction;" (.ref (xa X 1300)) (xA X) U U.heap ∨ va_Z "jdk/internal/util/Preconditions" "SIOOBE_FORMATTER" "Ljava/util/function/BiFunction;" .null (xA X) U U.heap)
theorem wK.to {X : wX} {s U : State} (h : wK X s) (hW : s.WarmedH U.vm) (hq : ∀ q : Nat, q < s.heap.size → ¬ xA X q → U.heap[q]? = s.heap[q]?) : wK X U := by
  obtain ⟨h1, h2, h3, h4, h5, h6, h7, h8, h9, h10, h11⟩ := h
  exact ⟨h1, va_K.moved hW.alike h2, fun q z => va_Nw.warmF hW (h3 q z), fun q z => va_Nw.warmM hW (h4 q z), fun i n f z => (va_T.moved hW.alike (h5 i n f z)).kept hq, fun q z => (va_Z.moved hW.alike (h6 q z)).kept hq, fun q z => vk_R.warm hW (h7 q z), (vk_S.moved hW.alike h8).kept hq, fun C z => (h9 C z).moved hW.alike, (va_Z.moved hW.alike h10).kept hq, h11.elim (fun z => Or.inl ((va_Z.moved hW.alike z).kept hq)) (fun z => Or.inr ((va_Z.moved hW.alike z).kept hq))⟩
theorem wK.same {X : wX} {s U : State} (h : wK X s) (hv : U.vm = s.vm) (hh : U.heap = s.heap) : wK X U := by
  obtain ⟨h1, h2, h3, h4, h5, h6, h7, h8, h9, h10, h11⟩ := h
  have ha : s.vm.Alike U.vm := by rw [hv]; exact Vm.Alike.refl s.vm
  rw [wK, hh]
  exact ⟨h1, va_K.moved ha h2, fun q z => va_Nw.same rfl hv.symm (h3 q z), fun q z => va_Nw.same rfl hv.symm (h4 q z), fun i n f z => va_T.moved ha (h5 i n f z), fun q z => va_Z.moved ha (h6 q z), fun q z => vk_R.same hv (h7 q z), vk_S.moved ha h8, fun C z => (h9 C z).moved ha, va_Z.moved ha h10, h11.elim (fun z => Or.inl (va_Z.moved ha z)) (fun z => Or.inr (va_Z.moved ha z))⟩
theorem wK_T {X : wX} {s : State} (h : wK X s) {i n : Nat} {f : Nat → Int32} (he : (xo X)[i]? = some (n, f)) : va_T .int (xa X (1000 + i)) n (fun j => .int (f j)) (xA X) s s.heap := h.2.2.2.2.1 i n f he
/-! the judgement -/
def wG (X : wX) (M : wM) (R : Room) (B : Nat) (p : Program) (s : State) (m : MethodId) (args : Array Value) (meth : Method) (c : Code) (n0 : Nat) : Prop :=
  p.tables.exec = Jvm.exec ∧ c.code = M.2.1 ∧ meth.sig.returnType = M.2.2.2 ∧ meth.locks = false ∧ c.maxLocals = M.2.2.1 ∧ s.vm.findClass M.1.cls = some m.cls ∧ meth.name = M.1.name ∧ (∀ w ∈ wWL, w.before args s = true) ∧ wK X s ∧ s.heap.size = xz X + n0 ∧ n0 + B ≤ 1000 ∧ B ≤ R.cells
def WP (X : wX) (M : wM) (R : Room) (B : Nat) (E : wN) (nc u pc : Nat) (pl : List (Option Value)) (st : List Value) (h : wH) : Prop :=
  ∀ (p : Program) (e : Env) (s : State) (m : MethodId) (args : Array Value) (below : List Frame) (meth : Method) (c : Code) (n0 : Nat) (H : Heap) (ls : Array Slot) (locs : List Loc),
    wG X M R B p s m args meth c n0 → (h.length = n0 + nc ∧ nc ≤ B ∧ u ≤ R.slots) → lv_has ls M.2.2.1 (wll X pl) → va_P (xD X) wcl (ww X 0 h) H → va_S (xA X) s.heap H locs →
    W p (xl X) e R s m args below meth c H locs nc u (E below args s n0) (F0 m pc ls (st.map (wv X)))
section WG
variable {X : wX} {M : wM} {R : Room} {B : Nat} {p : Program} {s : State} {m : MethodId} {args : Array Value} {meth : Method} {c : Code} {n0 : Nat}
theorem wG_own (h : wG X M R B p s m args meth c n0) : s.vm.findClass M.1.cls = some m.cls := h.2.2.2.2.2.1
theorem wG_ts (h : wG X M R B p s m args meth c n0) : ∀ w ∈ wWL, w.before args s = true := h.2.2.2.2.2.2.2.1
theorem wG_W (h : wG X M R B p s m args meth c n0) : wK X s := h.2.2.2.2.2.2.2.2.1
theorem wG_K (h : wG X M R B p s m args meth c n0) : va_K (xD X) wcl (wty X) s := h.2.2.2.2.2.2.2.2.1.2.1
theorem wG_size (h : wG X M R B p s m args meth c n0) : s.heap.size = xz X + n0 ∧ n0 + B ≤ 1000 ∧ B ≤ R.cells := h.2.2.2.2.2.2.2.2.2
theorem wG_D (h : wG X M R B p s m args meth c n0) {g : wH} {nc u : Nat} (hn : g.length = n0 + nc ∧ nc ≤ B ∧ u ≤ R.slots) : va_D (xA X) (ww X 0 g) := by
  obtain ⟨h1, h2, h3⟩ := wG_size h
  exact ww_D (wG_W h).1 (by omega)
theorem wn_set {g : wH} {nc u q : Nat} {e : wE} (hn : g.length = n0 + nc ∧ nc ≤ B ∧ u ≤ R.slots) : (g.set q e).length = n0 + nc ∧ nc ≤ B ∧ u ≤ R.slots := by
  rw [List.length_set]
  exact hn
end WG
end
section
/-! a rule an instruction (written by wip/gen/mkwp.py) -/
section WR
variable {X : wX} {M : wM} {R : Room} {B : Nat} {E : wN} {nc u pc : Nat} {pl : List (Option Value)} {st : List Value} {h : wH}
theorem w_iconst {n : Int} {v : Int32} (hd : decode M.2.1 pc = .ok (.iconst n, 1)) (hv : Int32.ofInt n = v) (k : WP X M R B E nc u (pc + 1) pl (.int v :: st) h) : WP X M R B E nc u pc pl (st) h := by
  intro p e s m args below meth c n0 H ls locs hG hn hl hP hS
  exact lv_iconst  (rest := st.map (wv X)) hG.1 hG.2.1 hd hv (k p e s m args below meth c n0 H ls locs hG hn hl hP hS)
theorem w_bipush {n : Int} {v : Int32} (hd : decode M.2.1 pc = .ok (.bipush n, 2)) (hv : (Int8.ofInt n).toInt32 = v) (k : WP X M R B E nc u (pc + 2) pl (.int v :: st) h) : WP X M R B E nc u pc pl (st) h := by
  intro p e s m args below meth c n0 H ls locs hG hn hl hP hS
  exact lv_bipush  (rest := st.map (wv X)) hG.1 hG.2.1 hd hv (k p e s m args below meth c n0 H ls locs hG hn hl hP hS)
theorem w_sipush {n : Int} {v : Int32} (hd : decode M.2.1 pc = .ok (.sipush n, 3)) (hv : (Int16.ofInt n).toInt32 = v) (k : WP X M R B E nc u (pc + 3) pl (.int v :: st) h) : WP X M R B E nc u pc pl (st) h := by
  intro p e s m args below meth c n0 H ls locs hG hn hl hP hS
  exact lv_sipush  (rest := st.map (wv X)) hG.1 hG.2.1 hd hv (k p e s m args below meth c n0 H ls locs hG hn hl hP hS)
theorem w_lconst {n : Fin 2} {v : Int64} (hd : decode M.2.1 pc = .ok (.lconst n, 1)) (hv : Int64.ofNat (n : Nat) = v) (k : WP X M R B E nc u (pc + 1) pl (.long v :: st) h) : WP X M R B E nc u pc pl (st) h := by
  intro p e s m args below meth c n0 H ls locs hG hn hl hP hS
  exact lv_lconst  (rest := st.map (wv X)) hG.1 hG.2.1 hd hv (k p e s m args below meth c n0 H ls locs hG hn hl hP hS)
theorem w_iadd {x y : Int32} (hd : decode M.2.1 pc = .ok (.iadd, 1)) (k : WP X M R B E nc u (pc + 1) pl (.int (x + y) :: st) h) : WP X M R B E nc u pc pl (.int y :: .int x :: st) h := by
  intro p e s m args below meth c n0 H ls locs hG hn hl hP hS
  exact lv_iadd (x := x) (y := y) (rest := st.map (wv X)) hG.1 hG.2.1 hd (k p e s m args below meth c n0 H ls locs hG hn hl hP hS)
theorem w_isub {x y : Int32} (hd : decode M.2.1 pc = .ok (.isub, 1)) (k : WP X M R B E nc u (pc + 1) pl (.int (x - y) :: st) h) : WP X M R B E nc u pc pl (.int y :: .int x :: st) h := by
  intro p e s m args below meth c n0 H ls locs hG hn hl hP hS
  exact lv_isub (x := x) (y := y) (rest := st.map (wv X)) hG.1 hG.2.1 hd (k p e s m args below meth c n0 H ls locs hG hn hl hP hS)
theorem w_imul {x y : Int32} (hd : decode M.2.1 pc = .ok (.imul, 1)) (k : WP X M R B E nc u (pc + 1) pl (.int (x * y) :: st) h) : WP X M R B E nc u pc pl (.int y :: .int x :: st) h := by
  intro p e s m args below meth c n0 H ls locs hG hn hl hP hS
  exact lv_imul (x := x) (y := y) (rest := st.map (wv X)) hG.1 hG.2.1 hd (k p e s m args below meth c n0 H ls locs hG hn hl hP hS)
theorem w_iand {x y : Int32} (hd : decode M.2.1 pc = .ok (.iand, 1)) (k : WP X M R B E nc u (pc + 1) pl (.int (x &&& y) :: st) h) : WP X M R B E nc u pc pl (.int y :: .int x :: st) h := by
  intro p e s m args below meth c n0 H ls locs hG hn hl hP hS
  exact lv_iand (x := x) (y := y) (rest := st.map (wv X)) hG.1 hG.2.1 hd (k p e s m args below meth c n0 H ls locs hG hn hl hP hS)
theorem w_ior {x y : Int32} (hd : decode M.2.1 pc = .ok (.ior, 1)) (k : WP X M R B E nc u (pc + 1) pl (.int (x ||| y) :: st) h) : WP X M R B E nc u pc pl (.int y :: .int x :: st) h := by
  intro p e s m args below meth c n0 H ls locs hG hn hl hP hS
  exact lv_ior (x := x) (y := y) (rest := st.map (wv X)) hG.1 hG.2.1 hd (k p e s m args below meth c n0 H ls locs hG hn hl hP hS)
theorem w_ixor {x y : Int32} (hd : decode M.2.1 pc = .ok (.ixor, 1)) (k : WP X M R B E nc u (pc + 1) pl (.int (x ^^^ y) :: st) h) : WP X M R B E nc u pc pl (.int y :: .int x :: st) h := by
  intro p e s m args below meth c n0 H ls locs hG hn hl hP hS
  exact lv_ixor (x := x) (y := y) (rest := st.map (wv X)) hG.1 hG.2.1 hd (k p e s m args below meth c n0 H ls locs hG hn hl hP hS)
theorem w_idiv {x y : Int32} (hd : decode M.2.1 pc = .ok (.idiv, 1)) (hne : ¬ y = 0) (k : WP X M R B E nc u (pc + 1) pl (.int (x / y) :: st) h) : WP X M R B E nc u pc pl (.int y :: .int x :: st) h := by
  intro p e s m args below meth c n0 H ls locs hG hn hl hP hS
  exact lv_idiv (x := x) (y := y) (rest := st.map (wv X)) hG.1 hG.2.1 hd hne (k p e s m args below meth c n0 H ls locs hG hn hl hP hS)
theorem w_ineg {x : Int32} (hd : decode M.2.1 pc = .ok (.ineg, 1)) (k : WP X M R B E nc u (pc + 1) pl (.int (-x) :: st) h) : WP X M R B E nc u pc pl (.int x :: st) h := by
  intro p e s m args below meth c n0 H ls locs hG hn hl hP hS
  exact lv_ineg (x := x) (rest := st.map (wv X)) hG.1 hG.2.1 hd (k p e s m args below meth c n0 H ls locs hG hn hl hP hS)
theorem w_ishl {x y : Int32} (hd : decode M.2.1 pc = .ok (.ishl, 1)) (k : WP X M R B E nc u (pc + 1) pl (.int (x <<< (y &&& 31)) :: st) h) : WP X M R B E nc u pc pl (.int y :: .int x :: st) h := by
  intro p e s m args below meth c n0 H ls locs hG hn hl hP hS
  exact lv_ishl (x := x) (y := y) (rest := st.map (wv X)) hG.1 hG.2.1 hd (k p e s m args below meth c n0 H ls locs hG hn hl hP hS)
theorem w_ishr {x y : Int32} (hd : decode M.2.1 pc = .ok (.ishr, 1)) (k : WP X M R B E nc u (pc + 1) pl (.int (x >>> (y &&& 31)) :: st) h) : WP X M R B E nc u pc pl (.int y :: .int x :: st) h := by
  intro p e s m args below meth c n0 H ls locs hG hn hl hP hS
  exact lv_ishr (x := x) (y := y) (rest := st.map (wv X)) hG.1 hG.2.1 hd (k p e s m args below meth c n0 H ls locs hG hn hl hP hS)
theorem w_ladd {x y : Int64} (hd : decode M.2.1 pc = .ok (.ladd, 1)) (k : WP X M R B E nc u (pc + 1) pl (.long (x + y) :: st) h) : WP X M R B E nc u pc pl (.long y :: .long x :: st) h := by
  intro p e s m args below meth c n0 H ls locs hG hn hl hP hS
  exact lv_ladd (x := x) (y := y) (rest := st.map (wv X)) hG.1 hG.2.1 hd (k p e s m args below meth c n0 H ls locs hG hn hl hP hS)
theorem w_lsub {x y : Int64} (hd : decode M.2.1 pc = .ok (.lsub, 1)) (k : WP X M R B E nc u (pc + 1) pl (.long (x - y) :: st) h) : WP X M R B E nc u pc pl (.long y :: .long x :: st) h := by
  intro p e s m args below meth c n0 H ls locs hG hn hl hP hS
  exact lv_lsub (x := x) (y := y) (rest := st.map (wv X)) hG.1 hG.2.1 hd (k p e s m args below meth c n0 H ls locs hG hn hl hP hS)
theorem w_lmul {x y : Int64} (hd : decode M.2.1 pc = .ok (.lmul, 1)) (k : WP X M R B E nc u (pc + 1) pl (.long (x * y) :: st) h) : WP X M R B E nc u pc pl (.long y :: .long x :: st) h := by
  intro p e s m args below meth c n0 H ls locs hG hn hl hP hS
  exact lv_lmul (x := x) (y := y) (rest := st.map (wv X)) hG.1 hG.2.1 hd (k p e s m args below meth c n0 H ls locs hG hn hl hP hS)
theorem w_land {x y : Int64} (hd : decode M.2.1 pc = .ok (.land, 1)) (k : WP X M R B E nc u (pc + 1) pl (.long (x &&& y) :: st) h) : WP X M R B E nc u pc pl (.long y :: .long x :: st) h := by
  intro p e s m args below meth c n0 H ls locs hG hn hl hP hS
  exact lv_land (x := x) (y := y) (rest := st.map (wv X)) hG.1 hG.2.1 hd (k p e s m args below meth c n0 H ls locs hG hn hl hP hS)
theorem w_lor {x y : Int64} (hd : decode M.2.1 pc = .ok (.lor, 1)) (k : WP X M R B E nc u (pc + 1) pl (.long (x ||| y) :: st) h) : WP X M R B E nc u pc pl (.long y :: .long x :: st) h := by
  intro p e s m args below meth c n0 H ls locs hG hn hl hP hS
  exact lv_lor (x := x) (y := y) (rest := st.map (wv X)) hG.1 hG.2.1 hd (k p e s m args below meth c n0 H ls locs hG hn hl hP hS)
theorem w_lxor {x y : Int64} (hd : decode M.2.1 pc = .ok (.lxor, 1)) (k : WP X M R B E nc u (pc + 1) pl (.long (x ^^^ y) :: st) h) : WP X M R B E nc u pc pl (.long y :: .long x :: st) h := by
  intro p e s m args below meth c n0 H ls locs hG hn hl hP hS
  exact lv_lxor (x := x) (y := y) (rest := st.map (wv X)) hG.1 hG.2.1 hd (k p e s m args below meth c n0 H ls locs hG hn hl hP hS)
theorem w_lshl {x : Int64} {y : Int32} (hd : decode M.2.1 pc = .ok (.lshl, 1)) (k : WP X M R B E nc u (pc + 1) pl (.long (x <<< (y.toInt64 &&& 63)) :: st) h) : WP X M R B E nc u pc pl (.int y :: .long x :: st) h := by
  intro p e s m args below meth c n0 H ls locs hG hn hl hP hS
  exact lv_lshl (x := x) (y := y) (rest := st.map (wv X)) hG.1 hG.2.1 hd rfl (k p e s m args below meth c n0 H ls locs hG hn hl hP hS)
theorem w_lshr {x : Int64} {y : Int32} (hd : decode M.2.1 pc = .ok (.lshr, 1)) (k : WP X M R B E nc u (pc + 1) pl (.long (x >>> (y.toInt64 &&& 63)) :: st) h) : WP X M R B E nc u pc pl (.int y :: .long x :: st) h := by
  intro p e s m args below meth c n0 H ls locs hG hn hl hP hS
  exact lv_lshr (x := x) (y := y) (rest := st.map (wv X)) hG.1 hG.2.1 hd rfl (k p e s m args below meth c n0 H ls locs hG hn hl hP hS)
theorem w_i2l {x : Int32} (hd : decode M.2.1 pc = .ok (.i2l, 1)) (k : WP X M R B E nc u (pc + 1) pl (.long x.toInt64 :: st) h) : WP X M R B E nc u pc pl (.int x :: st) h := by
  intro p e s m args below meth c n0 H ls locs hG hn hl hP hS
  exact lv_i2l (x := x) (rest := st.map (wv X)) hG.1 hG.2.1 hd rfl (k p e s m args below meth c n0 H ls locs hG hn hl hP hS)
theorem w_l2i {x : Int64} (hd : decode M.2.1 pc = .ok (.l2i, 1)) (k : WP X M R B E nc u (pc + 1) pl (.int x.toInt32 :: st) h) : WP X M R B E nc u pc pl (.long x :: st) h := by
  intro p e s m args below meth c n0 H ls locs hG hn hl hP hS
  exact lv_l2i (x := x) (rest := st.map (wv X)) hG.1 hG.2.1 hd rfl (k p e s m args below meth c n0 H ls locs hG hn hl hP hS)
theorem w_i2c {x : Int32} (hd : decode M.2.1 pc = .ok (.i2c, 1)) (k : WP X M R B E nc u (pc + 1) pl (.int (x.toUInt32 % 65536).toInt32 :: st) h) : WP X M R B E nc u pc pl (.int x :: st) h := by
  intro p e s m args below meth c n0 H ls locs hG hn hl hP hS
  exact lv_i2c (x := x) (rest := st.map (wv X)) hG.1 hG.2.1 hd rfl (k p e s m args below meth c n0 H ls locs hG hn hl hP hS)
theorem w_lcmp {x y : Int64} (hd : decode M.2.1 pc = .ok (.lcmp, 1)) (k : WP X M R B E nc u (pc + 1) pl (.int (lg_cmp x y) :: st) h) : WP X M R B E nc u pc pl (.long y :: .long x :: st) h := by
  intro p e s m args below meth c n0 H ls locs hG hn hl hP hS
  exact W.lcmp (x := x) (y := y) (rest := st.map (wv X)) hG.1 hG.2.1 hd (k p e s m args below meth c n0 H ls locs hG hn hl hP hS)
theorem w_null  (hd : decode M.2.1 pc = .ok (.aconst_null, 1)) (k : WP X M R B E nc u (pc + 1) pl (.null :: st) h) : WP X M R B E nc u pc pl (st) h := by
  intro p e s m args below meth c n0 H ls locs hG hn hl hP hS
  exact lv_null  (rest := st.map (wv X)) hG.1 hG.2.1 hd (k p e s m args below meth c n0 H ls locs hG hn hl hP hS)
theorem w_dup {va : Value} (hd : decode M.2.1 pc = .ok (.dup, 1)) (hva : va.category = 1) (k : WP X M R B E nc u (pc + 1) pl (va :: va :: st) h) : WP X M R B E nc u pc pl (va :: st) h := by
  intro p e s m args below meth c n0 H ls locs hG hn hl hP hS
  exact lv_dup (va := wv X va) (rest := st.map (wv X)) hG.1 hG.2.1 hd ((wv_cat X va).trans hva) (k p e s m args below meth c n0 H ls locs hG hn hl hP hS)
theorem w_pop {va : Value} (hd : decode M.2.1 pc = .ok (.pop, 1)) (hva : va.category = 1) (k : WP X M R B E nc u (pc + 1) pl (st) h) : WP X M R B E nc u pc pl (va :: st) h := by
  intro p e s m args below meth c n0 H ls locs hG hn hl hP hS
  exact lv_pop (va := wv X va) (rest := st.map (wv X)) hG.1 hG.2.1 hd ((wv_cat X va).trans hva) (k p e s m args below meth c n0 H ls locs hG hn hl hP hS)
theorem w_dup_x1 {va vb : Value} (hd : decode M.2.1 pc = .ok (.dup_x1, 1)) (hva : va.category = 1) (hvb : vb.category = 1) (k : WP X M R B E nc u (pc + 1) pl (va :: vb :: va :: st) h) : WP X M R B E nc u pc pl (va :: vb :: st) h := by
  intro p e s m args below meth c n0 H ls locs hG hn hl hP hS
  exact lv_dup_x1 (va := wv X va) (vb := wv X vb) (rest := st.map (wv X)) hG.1 hG.2.1 hd ((wv_cat X va).trans hva) ((wv_cat X vb).trans hvb) (k p e s m args below meth c n0 H ls locs hG hn hl hP hS)
theorem w_dup2 {va vb : Value} (hd : decode M.2.1 pc = .ok (.dup2, 1)) (hva : va.category = 1) (hvb : vb.category = 1) (k : WP X M R B E nc u (pc + 1) pl (va :: vb :: va :: vb :: st) h) : WP X M R B E nc u pc pl (va :: vb :: st) h := by
  intro p e s m args below meth c n0 H ls locs hG hn hl hP hS
  exact lv_dup2_11 (va := wv X va) (vb := wv X vb) (rest := st.map (wv X)) hG.1 hG.2.1 hd ((wv_cat X va).trans hva) ((wv_cat X vb).trans hvb) (k p e s m args below meth c n0 H ls locs hG hn hl hP hS)
theorem w_iload_n {j : Fin 4} {x : Int32} (hd : decode M.2.1 pc = .ok (.iload_n j, 1)) (hv : pl[(j : Nat)]? = some (some (.int x))) (k : WP X M R B E nc u (pc + 1) pl (.int x :: st) h) : WP X M R B E nc u pc pl st h := by
  intro p e s m args below meth c n0 H ls locs hG hn hl hP hS
  exact lv_iload_n (rest := st.map (wv X)) hG.1 hG.2.1 hd rfl (wl_at hl hv) (k p e s m args below meth c n0 H ls locs hG hn hl hP hS)
theorem w_iload {j : Nat} {x : Int32} (hd : decode M.2.1 pc = .ok (.iload j, 2)) (hv : pl[j]? = some (some (.int x))) (k : WP X M R B E nc u (pc + 2) pl (.int x :: st) h) : WP X M R B E nc u pc pl st h := by
  intro p e s m args below meth c n0 H ls locs hG hn hl hP hS
  exact lv_iload (rest := st.map (wv X)) hG.1 hG.2.1 hd (wl_at hl hv) (k p e s m args below meth c n0 H ls locs hG hn hl hP hS)
theorem w_lload_n {j : Fin 4} {x : Int64} (hd : decode M.2.1 pc = .ok (.lload_n j, 1)) (hv : pl[(j : Nat)]? = some (some (.long x))) (k : WP X M R B E nc u (pc + 1) pl (.long x :: st) h) : WP X M R B E nc u pc pl st h := by
  intro p e s m args below meth c n0 H ls locs hG hn hl hP hS
  exact lv_lload_n (rest := st.map (wv X)) hG.1 hG.2.1 hd rfl (wl_at hl hv) (k p e s m args below meth c n0 H ls locs hG hn hl hP hS)
theorem w_lload {j : Nat} {x : Int64} (hd : decode M.2.1 pc = .ok (.lload j, 2)) (hv : pl[j]? = some (some (.long x))) (k : WP X M R B E nc u (pc + 2) pl (.long x :: st) h) : WP X M R B E nc u pc pl st h := by
  intro p e s m args below meth c n0 H ls locs hG hn hl hP hS
  exact lv_lload (rest := st.map (wv X)) hG.1 hG.2.1 hd (wl_at hl hv) (k p e s m args below meth c n0 H ls locs hG hn hl hP hS)
theorem w_aload_n {j : Fin 4} {v : Value} (hd : decode M.2.1 pc = .ok (.aload_n j, 1)) (hv : pl[(j : Nat)]? = some (some v)) (hr : wref v = true) (k : WP X M R B E nc u (pc + 1) pl (v :: st) h) : WP X M R B E nc u pc pl st h := by
  intro p e s m args below meth c n0 H ls locs hG hn hl hP hS
  rcases wref_or hr with rfl | ⟨q, rfl⟩
  · exact lv_aload_nN (rest := st.map (wv X)) hG.1 hG.2.1 hd rfl (wl_at hl hv) (k p e s m args below meth c n0 H ls locs hG hn hl hP hS)
  · exact lv_aload_n (rest := st.map (wv X)) hG.1 hG.2.1 hd rfl (wl_at hl hv) (k p e s m args below meth c n0 H ls locs hG hn hl hP hS)
theorem w_aload {j : Nat} {v : Value} (hd : decode M.2.1 pc = .ok (.aload j, 2)) (hv : pl[j]? = some (some v)) (hr : wref v = true) (k : WP X M R B E nc u (pc + 2) pl (v :: st) h) : WP X M R B E nc u pc pl st h := by
  intro p e s m args below meth c n0 H ls locs hG hn hl hP hS
  rcases wref_or hr with rfl | ⟨q, rfl⟩
  · exact lv_aloadN (rest := st.map (wv X)) hG.1 hG.2.1 hd (wl_at hl hv) (k p e s m args below meth c n0 H ls locs hG hn hl hP hS)
  · exact lv_aload (rest := st.map (wv X)) hG.1 hG.2.1 hd (wl_at hl hv) (k p e s m args below meth c n0 H ls locs hG hn hl hP hS)
theorem w_istore_n {j : Fin 4} {x : Int32} (hd : decode M.2.1 pc = .ok (.istore_n j, 1)) (hj : (j : Nat) < M.2.2.1) (k : WP X M R B E nc u (pc + 1) (wst1 pl (j : Nat) (.int x)) st h) : WP X M R B E nc u pc pl (.int x :: st) h := by
  intro p e s m args below meth c n0 H ls locs hG hn hl hP hS
  exact lv_istore_n (x := x) (rest := st.map (wv X)) hG.1 hG.2.1 hd rfl hl hj rfl (fun ls' hl' => k p e s m args below meth c n0 H ls' locs hG hn (wl_st1 hl') hP hS)
theorem w_lstore_n {j : Fin 4} {x : Int64} (hd : decode M.2.1 pc = .ok (.lstore_n j, 1)) (hj : (j : Nat) + 1 < M.2.2.1) (k : WP X M R B E nc u (pc + 1) (wst2 pl (j : Nat) (.long x)) st h) : WP X M R B E nc u pc pl (.long x :: st) h := by
  intro p e s m args below meth c n0 H ls locs hG hn hl hP hS
  exact lv_lstore_n (x := x) (rest := st.map (wv X)) hG.1 hG.2.1 hd rfl hl hj rfl (fun ls' hl' => k p e s m args below meth c n0 H ls' locs hG hn (wl_st2 hl') hP hS)
theorem w_astore_n {j : Fin 4} {v : Value} (hd : decode M.2.1 pc = .ok (.astore_n j, 1)) (hj : (j : Nat) < M.2.2.1) (hr : wref v = true) (k : WP X M R B E nc u (pc + 1) (wst1 pl (j : Nat) v) st h) : WP X M R B E nc u pc pl (v :: st) h := by
  intro p e s m args below meth c n0 H ls locs hG hn hl hP hS
  rcases wref_or hr with rfl | ⟨q, rfl⟩
  · exact lv_astore_nN (rest := st.map (wv X)) hG.1 hG.2.1 hd rfl hl hj rfl (fun ls' hl' => k p e s m args below meth c n0 H ls' locs hG hn (wl_st1 hl') hP hS)
  · exact lv_astore_n (x := xa X q) (rest := st.map (wv X)) hG.1 hG.2.1 hd rfl hl hj rfl (fun ls' hl' => k p e s m args below meth c n0 H ls' locs hG hn (wl_st1 hl') hP hS)
theorem w_istore {j : Nat} {x : Int32} (hd : decode M.2.1 pc = .ok (.istore j, 2)) (hj : j < M.2.2.1) (k : WP X M R B E nc u (pc + 2) (wst1 pl j (.int x)) st h) : WP X M R B E nc u pc pl (.int x :: st) h := by
  intro p e s m args below meth c n0 H ls locs hG hn hl hP hS
  exact lv_istore (x := x) (rest := st.map (wv X)) hG.1 hG.2.1 hd hl hj rfl (fun ls' hl' => k p e s m args below meth c n0 H ls' locs hG hn (wl_st1 hl') hP hS)
theorem w_lstore {j : Nat} {x : Int64} (hd : decode M.2.1 pc = .ok (.lstore j, 2)) (hj : j + 1 < M.2.2.1) (k : WP X M R B E nc u (pc + 2) (wst2 pl j (.long x)) st h) : WP X M R B E nc u pc pl (.long x :: st) h := by
  intro p e s m args below meth c n0 H ls locs hG hn hl hP hS
  exact lv_lstore (x := x) (rest := st.map (wv X)) hG.1 hG.2.1 hd hl hj rfl (fun ls' hl' => k p e s m args below meth c n0 H ls' locs hG hn (wl_st2 hl') hP hS)
theorem w_astore {j : Nat} {v : Value} (hd : decode M.2.1 pc = .ok (.astore j, 2)) (hj : j < M.2.2.1) (hr : wref v = true) (k : WP X M R B E nc u (pc + 2) (wst1 pl j v) st h) : WP X M R B E nc u pc pl (v :: st) h := by
  intro p e s m args below meth c n0 H ls locs hG hn hl hP hS
  rcases wref_or hr with rfl | ⟨q, rfl⟩
  · exact lv_astoreN (rest := st.map (wv X)) hG.1 hG.2.1 hd hl hj rfl (fun ls' hl' => k p e s m args below meth c n0 H ls' locs hG hn (wl_st1 hl') hP hS)
  · exact lv_astore (x := xa X q) (rest := st.map (wv X)) hG.1 hG.2.1 hd hl hj rfl (fun ls' hl' => k p e s m args below meth c n0 H ls' locs hG hn (wl_st1 hl') hP hS)
theorem w_iinc {j : Nat} {n : Int} {x v : Int32} (hd : decode M.2.1 pc = .ok (.iinc j n, 3)) (hv : pl[j]? = some (some (.int x))) (hx : x + Int32.ofInt n = v) (hj : j < M.2.2.1) (k : WP X M R B E nc u (pc + 3) (wst1 pl j (.int v)) st h) : WP X M R B E nc u pc pl st h := by
  intro p e s m args below meth c n0 H ls locs hG hn hl hP hS
  obtain ⟨i9, hi9⟩ := List.getElem?_of_mem (wll_mem.mpr ⟨_, hv, rfl⟩ : (j, wv X (.int x)) ∈ wll X pl)
  exact lv_iinc (rest := st.map (wv X)) hG.1 hG.2.1 hd hl hi9 hx hj rfl (fun ls' hl' => k p e s m args below meth c n0 H ls' locs hG hn (wl_st1 hl') hP hS)
theorem w_if_eq {x : Int32} {off : Int} {tgt : Nat} (hd : decode M.2.1 pc = .ok (.ifCond .eq off, 3)) (ht : (pc : Int) + off = (tgt : Int)) (kt : x = 0 → WP X M R B E nc u tgt pl st h) (kf : ¬ (x = 0) → WP X M R B E nc u (pc + 3) pl st h) : WP X M R B E nc u pc pl (.int x :: st) h := by
  intro p e s m args below meth c n0 H ls locs hG hn hl hP hS
  exact lv_if_eq (x := x) (rest := st.map (wv X)) hG.1 hG.2.1 hd ht (fun hc => kt hc p e s m args below meth c n0 H ls locs hG hn hl hP hS) (fun hc => kf hc p e s m args below meth c n0 H ls locs hG hn hl hP hS)
theorem w_icmp_eq {x y : Int32} {off : Int} {tgt : Nat} (hd : decode M.2.1 pc = .ok (.if_icmp .eq off, 3)) (ht : (pc : Int) + off = (tgt : Int)) (kt : x = y → WP X M R B E nc u tgt pl st h) (kf : ¬ (x = y) → WP X M R B E nc u (pc + 3) pl st h) : WP X M R B E nc u pc pl (.int y :: .int x :: st) h := by
  intro p e s m args below meth c n0 H ls locs hG hn hl hP hS
  exact lv_icmp_eq (x := x) (y := y) (rest := st.map (wv X)) hG.1 hG.2.1 hd ht (fun hc => kt hc p e s m args below meth c n0 H ls locs hG hn hl hP hS) (fun hc => kf hc p e s m args below meth c n0 H ls locs hG hn hl hP hS)
theorem w_if_ne {x : Int32} {off : Int} {tgt : Nat} (hd : decode M.2.1 pc = .ok (.ifCond .ne off, 3)) (ht : (pc : Int) + off = (tgt : Int)) (kt : ¬ x = 0 → WP X M R B E nc u tgt pl st h) (kf : x = 0 → WP X M R B E nc u (pc + 3) pl st h) : WP X M R B E nc u pc pl (.int x :: st) h := by
  intro p e s m args below meth c n0 H ls locs hG hn hl hP hS
  exact lv_if_ne (x := x) (rest := st.map (wv X)) hG.1 hG.2.1 hd ht (fun hc => kt hc p e s m args below meth c n0 H ls locs hG hn hl hP hS) (fun hc => kf hc p e s m args below meth c n0 H ls locs hG hn hl hP hS)
theorem w_icmp_ne {x y : Int32} {off : Int} {tgt : Nat} (hd : decode M.2.1 pc = .ok (.if_icmp .ne off, 3)) (ht : (pc : Int) + off = (tgt : Int)) (kt : ¬ x = y → WP X M R B E nc u tgt pl st h) (kf : x = y → WP X M R B E nc u (pc + 3) pl st h) : WP X M R B E nc u pc pl (.int y :: .int x :: st) h := by
  intro p e s m args below meth c n0 H ls locs hG hn hl hP hS
  exact lv_icmp_ne (x := x) (y := y) (rest := st.map (wv X)) hG.1 hG.2.1 hd ht (fun hc => kt hc p e s m args below meth c n0 H ls locs hG hn hl hP hS) (fun hc => kf hc p e s m args below meth c n0 H ls locs hG hn hl hP hS)
theorem w_if_lt {x : Int32} {off : Int} {tgt : Nat} (hd : decode M.2.1 pc = .ok (.ifCond .lt off, 3)) (ht : (pc : Int) + off = (tgt : Int)) (kt : x < 0 → WP X M R B E nc u tgt pl st h) (kf : ¬ (x < 0) → WP X M R B E nc u (pc + 3) pl st h) : WP X M R B E nc u pc pl (.int x :: st) h := by
  intro p e s m args below meth c n0 H ls locs hG hn hl hP hS
  exact lv_if_lt (x := x) (rest := st.map (wv X)) hG.1 hG.2.1 hd ht (fun hc => kt hc p e s m args below meth c n0 H ls locs hG hn hl hP hS) (fun hc => kf hc p e s m args below meth c n0 H ls locs hG hn hl hP hS)
theorem w_icmp_lt {x y : Int32} {off : Int} {tgt : Nat} (hd : decode M.2.1 pc = .ok (.if_icmp .lt off, 3)) (ht : (pc : Int) + off = (tgt : Int)) (kt : x < y → WP X M R B E nc u tgt pl st h) (kf : ¬ (x < y) → WP X M R B E nc u (pc + 3) pl st h) : WP X M R B E nc u pc pl (.int y :: .int x :: st) h := by
  intro p e s m args below meth c n0 H ls locs hG hn hl hP hS
  exact lv_icmp_lt (x := x) (y := y) (rest := st.map (wv X)) hG.1 hG.2.1 hd ht (fun hc => kt hc p e s m args below meth c n0 H ls locs hG hn hl hP hS) (fun hc => kf hc p e s m args below meth c n0 H ls locs hG hn hl hP hS)
theorem w_if_ge {x : Int32} {off : Int} {tgt : Nat} (hd : decode M.2.1 pc = .ok (.ifCond .ge off, 3)) (ht : (pc : Int) + off = (tgt : Int)) (kt : 0 ≤ x → WP X M R B E nc u tgt pl st h) (kf : ¬ (0 ≤ x) → WP X M R B E nc u (pc + 3) pl st h) : WP X M R B E nc u pc pl (.int x :: st) h := by
  intro p e s m args below meth c n0 H ls locs hG hn hl hP hS
  exact lv_if_ge (x := x) (rest := st.map (wv X)) hG.1 hG.2.1 hd ht (fun hc => kt hc p e s m args below meth c n0 H ls locs hG hn hl hP hS) (fun hc => kf hc p e s m args below meth c n0 H ls locs hG hn hl hP hS)
theorem w_icmp_ge {x y : Int32} {off : Int} {tgt : Nat} (hd : decode M.2.1 pc = .ok (.if_icmp .ge off, 3)) (ht : (pc : Int) + off = (tgt : Int)) (kt : y ≤ x → WP X M R B E nc u tgt pl st h) (kf : ¬ (y ≤ x) → WP X M R B E nc u (pc + 3) pl st h) : WP X M R B E nc u pc pl (.int y :: .int x :: st) h := by
  intro p e s m args below meth c n0 H ls locs hG hn hl hP hS
  exact lv_icmp_ge (x := x) (y := y) (rest := st.map (wv X)) hG.1 hG.2.1 hd ht (fun hc => kt hc p e s m args below meth c n0 H ls locs hG hn hl hP hS) (fun hc => kf hc p e s m args below meth c n0 H ls locs hG hn hl hP hS)
theorem w_if_gt {x : Int32} {off : Int} {tgt : Nat} (hd : decode M.2.1 pc = .ok (.ifCond .gt off, 3)) (ht : (pc : Int) + off = (tgt : Int)) (kt : 0 < x → WP X M R B E nc u tgt pl st h) (kf : ¬ (0 < x) → WP X M R B E nc u (pc + 3) pl st h) : WP X M R B E nc u pc pl (.int x :: st) h := by
  intro p e s m args below meth c n0 H ls locs hG hn hl hP hS
  exact lv_if_gt (x := x) (rest := st.map (wv X)) hG.1 hG.2.1 hd ht (fun hc => kt hc p e s m args below meth c n0 H ls locs hG hn hl hP hS) (fun hc => kf hc p e s m args below meth c n0 H ls locs hG hn hl hP hS)
theorem w_icmp_gt {x y : Int32} {off : Int} {tgt : Nat} (hd : decode M.2.1 pc = .ok (.if_icmp .gt off, 3)) (ht : (pc : Int) + off = (tgt : Int)) (kt : y < x → WP X M R B E nc u tgt pl st h) (kf : ¬ (y < x) → WP X M R B E nc u (pc + 3) pl st h) : WP X M R B E nc u pc pl (.int y :: .int x :: st) h := by
  intro p e s m args below meth c n0 H ls locs hG hn hl hP hS
  exact lv_icmp_gt (x := x) (y := y) (rest := st.map (wv X)) hG.1 hG.2.1 hd ht (fun hc => kt hc p e s m args below meth c n0 H ls locs hG hn hl hP hS) (fun hc => kf hc p e s m args below meth c n0 H ls locs hG hn hl hP hS)
theorem w_if_le {x : Int32} {off : Int} {tgt : Nat} (hd : decode M.2.1 pc = .ok (.ifCond .le off, 3)) (ht : (pc : Int) + off = (tgt : Int)) (kt : x ≤ 0 → WP X M R B E nc u tgt pl st h) (kf : ¬ (x ≤ 0) → WP X M R B E nc u (pc + 3) pl st h) : WP X M R B E nc u pc pl (.int x :: st) h := by
  intro p e s m args below meth c n0 H ls locs hG hn hl hP hS
  exact lv_if_le (x := x) (rest := st.map (wv X)) hG.1 hG.2.1 hd ht (fun hc => kt hc p e s m args below meth c n0 H ls locs hG hn hl hP hS) (fun hc => kf hc p e s m args below meth c n0 H ls locs hG hn hl hP hS)
theorem w_icmp_le {x y : Int32} {off : Int} {tgt : Nat} (hd : decode M.2.1 pc = .ok (.if_icmp .le off, 3)) (ht : (pc : Int) + off = (tgt : Int)) (kt : x ≤ y → WP X M R B E nc u tgt pl st h) (kf : ¬ (x ≤ y) → WP X M R B E nc u (pc + 3) pl st h) : WP X M R B E nc u pc pl (.int y :: .int x :: st) h := by
  intro p e s m args below meth c n0 H ls locs hG hn hl hP hS
  exact lv_icmp_le (x := x) (y := y) (rest := st.map (wv X)) hG.1 hG.2.1 hd ht (fun hc => kt hc p e s m args below meth c n0 H ls locs hG hn hl hP hS) (fun hc => kf hc p e s m args below meth c n0 H ls locs hG hn hl hP hS)
theorem w_goto {off : Int} {tgt : Nat} (hd : decode M.2.1 pc = .ok (.goto off, 3)) (ht : (pc : Int) + off = (tgt : Int)) (k : WP X M R B E nc u tgt pl st h) : WP X M R B E nc u pc pl st h := by
  intro p e s m args below meth c n0 H ls locs hG hn hl hP hS
  exact lv_goto (rest := st.map (wv X)) hG.1 hG.2.1 hd ht (k p e s m args below meth c n0 H ls locs hG hn hl hP hS)
theorem w_ifnull {q : Nat} {off : Int} (hd : decode M.2.1 pc = .ok (.ifnull off, 3)) (k : WP X M R B E nc u (pc + 3) pl st h) : WP X M R B E nc u pc pl (.ref q :: st) h := by
  intro p e s m args below meth c n0 H ls locs hG hn hl hP hS
  exact lv_ifnull (x := xa X q) (rest := st.map (wv X)) hG.1 hG.2.1 hd (k p e s m args below meth c n0 H ls locs hG hn hl hP hS)
theorem w_ifnullN {off : Int} {tgt : Nat} (hd : decode M.2.1 pc = .ok (.ifnull off, 3)) (ht : (pc : Int) + off = (tgt : Int)) (k : WP X M R B E nc u tgt pl st h) : WP X M R B E nc u pc pl (.null :: st) h := by
  intro p e s m args below meth c n0 H ls locs hG hn hl hP hS
  exact lv_ifnullN (rest := st.map (wv X)) hG.1 hG.2.1 hd ht (k p e s m args below meth c n0 H ls locs hG hn hl hP hS)
theorem w_ifnonnull {q : Nat} {off : Int} {tgt : Nat} (hd : decode M.2.1 pc = .ok (.ifnonnull off, 3)) (ht : (pc : Int) + off = (tgt : Int)) (k : WP X M R B E nc u tgt pl st h) : WP X M R B E nc u pc pl (.ref q :: st) h := by
  intro p e s m args below meth c n0 H ls locs hG hn hl hP hS
  exact lv_ifnonnull (x := xa X q) (rest := st.map (wv X)) hG.1 hG.2.1 hd ht (k p e s m args below meth c n0 H ls locs hG hn hl hP hS)
theorem w_ifnonnullN {off : Int} (hd : decode M.2.1 pc = .ok (.ifnonnull off, 3)) (k : WP X M R B E nc u (pc + 3) pl st h) : WP X M R B E nc u pc pl (.null :: st) h := by
  intro p e s m args below meth c n0 H ls locs hG hn hl hP hS
  exact lv_ifnonnullN (rest := st.map (wv X)) hG.1 hG.2.1 hd (k p e s m args below meth c n0 H ls locs hG hn hl hP hS)
theorem w_lookup {dflt : Int} {ps : Array (Int × Int)} {len : Nat} {x : Int32} {off : Int} {tgt : Nat} (hd : decode M.2.1 pc = .ok (.lookupswitch dflt ps, len)) (hp : (ps.toList.zip (ps.toList.drop 1)).all (fun (a, next) => a.1 < next.1) = true) (ho : Op.lookupswitch.offset ps.toList dflt x.toInt = off) (ht : (pc : Int) + off = (tgt : Int)) (k : WP X M R B E nc u tgt pl st h) : WP X M R B E nc u pc pl (.int x :: st) h := by
  intro p e s m args below meth c n0 H ls locs hG hn hl hP hS
  exact lv_lookup (x := x) (rest := st.map (wv X)) hG.1 hG.2.1 hd hp ho ht (k p e s m args below meth c n0 H ls locs hG hn hl hP hS)
theorem w_tableOut {dflt lo hi : Int} {offs : Array Int} {len : Nat} {x : Int32} {tgt : Nat} (hd : decode M.2.1 pc = .ok (.tableswitch dflt lo hi offs, len)) (ho : x.toInt < lo ∨ hi < x.toInt) (ht : (pc : Int) + dflt = (tgt : Int)) (k : WP X M R B E nc u tgt pl st h) : WP X M R B E nc u pc pl (.int x :: st) h := by
  intro p e s m args below meth c n0 H ls locs hG hn hl hP hS
  exact lv_tableOut (x := x) (rest := st.map (wv X)) hG.1 hG.2.1 hd ho ht (k p e s m args below meth c n0 H ls locs hG hn hl hP hS)
theorem w_tableIn {dflt lo hi : Int} {offs : Array Int} {len : Nat} {x : Int32} {off : Int} {tgt : Nat} (hd : decode M.2.1 pc = .ok (.tableswitch dflt lo hi offs, len)) (h1 : ¬ x.toInt < lo) (h2 : ¬ hi < x.toInt) (ho : offs[(x.toInt - lo).toNat]? = some off) (ht : (pc : Int) + off = (tgt : Int)) (k : WP X M R B E nc u tgt pl st h) : WP X M R B E nc u pc pl (.int x :: st) h := by
  intro p e s m args below meth c n0 H ls locs hG hn hl hP hS
  exact lv_tableIn (x := x) (rest := st.map (wv X)) hG.1 hG.2.1 hd h1 h2 ho ht (k p e s m args below meth c n0 H ls locs hG hn hl hP hS)
theorem w_ldc {i : Nat} {v : Int32} (hd : decode M.2.1 pc = .ok (.ldc i, 2)) (hw : Cond.constant M.1.cls i v ∈ wWL) (k : WP X M R B E nc u (pc + 2) pl (.int v :: st) h) : WP X M R B E nc u pc pl st h := by
  intro p e s m args below meth c n0 H ls locs hG hn hl hP hS
  exact lv_ldc (rest := st.map (wv X)) hG.1 hG.2.1 (wG_own hG) (wG_ts hG _ hw) hd (k p e s m args below meth c n0 H ls locs hG hn hl hP hS)
theorem w_ldcw {i : Nat} {v : Int32} (hd : decode M.2.1 pc = .ok (.ldc_w i, 3)) (hw : Cond.constant M.1.cls i v ∈ wWL) (k : WP X M R B E nc u (pc + 3) pl (.int v :: st) h) : WP X M R B E nc u pc pl st h := by
  intro p e s m args below meth c n0 H ls locs hG hn hl hP hS
  exact lv_ldcw (rest := st.map (wv X)) hG.1 hG.2.1 (wG_own hG) (wG_ts hG _ hw) hd (k p e s m args below meth c n0 H ls locs hG hn hl hP hS)
theorem w_ldc2 {i : Nat} {v : Int64} (hd : decode M.2.1 pc = .ok (.ldc2_w i, 3)) (hw : Cond.constantLong M.1.cls i v ∈ wWL) (k : WP X M R B E nc u (pc + 3) pl (.long v :: st) h) : WP X M R B E nc u pc pl st h := by
  intro p e s m args below meth c n0 H ls locs hG hn hl hP hS
  exact lv_ldc2 (rest := st.map (wv X)) hG.1 hG.2.1 (wG_own hG) (wG_ts hG _ hw) hd (k p e s m args below meth c n0 H ls locs hG hn hl hP hS)
theorem w_iald {q n : Nat} {f : Nat → Int32} {i : Int32} (hd : decode M.2.1 pc = .ok (.iaload, 1)) (he : h[q]? = some (.inl (0, n, .inl f))) (hi : vp_in i n) (k : WP X M R B E nc u (pc + 1) pl (.int (f i.toNatClampNeg) :: st) h) : WP X M R B E nc u pc pl (.int i :: .ref q :: st) h := by
  intro p e s m args below meth c n0 H ls locs hG hn hl hP hS
  exact va_iald (rest := st.map (wv X)) hG.1 hG.2.1 (wG_K hG) hP q 0 (ww_at X he) rfl hi hd (k p e s m args below meth c n0 H ls locs hG hn hl hP hS)
theorem w_zald {q n : Nat} {f : Nat → Int32} {i : Int32} (hd : decode M.2.1 pc = .ok (.baload, 1)) (he : h[q]? = some (.inl (2, n, .inl f))) (hi : vp_in i n) (k : WP X M R B E nc u (pc + 1) pl (.int (f i.toNatClampNeg) :: st) h) : WP X M R B E nc u pc pl (.int i :: .ref q :: st) h := by
  intro p e s m args below meth c n0 H ls locs hG hn hl hP hS
  exact va_zald (rest := st.map (wv X)) hG.1 hG.2.1 (wG_K hG) hP q 2 (ww_at X he) rfl hi hd (k p e s m args below meth c n0 H ls locs hG hn hl hP hS)
theorem w_lald {q n : Nat} {f : Nat → Int64} {i : Int32} (hd : decode M.2.1 pc = .ok (.laload, 1)) (he : h[q]? = some (.inl (1, n, .inr (.inl f)))) (hi : vp_in i n) (k : WP X M R B E nc u (pc + 1) pl (.long (f i.toNatClampNeg) :: st) h) : WP X M R B E nc u pc pl (.int i :: .ref q :: st) h := by
  intro p e s m args below meth c n0 H ls locs hG hn hl hP hS
  exact va_lald (rest := st.map (wv X)) hG.1 hG.2.1 (wG_K hG) hP q 1 (ww_at X he) rfl hi hd (k p e s m args below meth c n0 H ls locs hG hn hl hP hS)
theorem w_aald {q n t : Nat} {C : String} {f : Nat → Option Nat} {i : Int32} (hd : decode M.2.1 pc = .ok (.aaload, 1)) (he : h[q]? = some (.inl (t, n, .inr (.inr (.inr (.inr f)))))) (ht : (wty X)[t]? = some (xc X t, .object C)) (hi : vp_in i n) (k : WP X M R B E nc u (pc + 1) pl (va_rf (f i.toNatClampNeg) :: st) h) : WP X M R B E nc u pc pl (.int i :: .ref q :: st) h := by
  intro p e s m args below meth c n0 H ls locs hG hn hl hP hS
  have k9 := k p e s m args below meth c n0 H ls locs hG hn hl hP hS
  rw [List.map_cons, wv_rf] at k9
  exact va_aldq (rest := st.map (wv X)) hG.1 hG.2.1 (wG_K hG) hP q t (ww_at X he) ht hi hd k9
theorem w_alen {q t : Nat} {a : vp_A} {ty : FieldType} {v : Int32} (hd : decode M.2.1 pc = .ok (.arraylength, 1)) (he : h[q]? = some (.inl (t, a))) (ht : (wty X)[t]? = some (xc X t, ty)) (hv : Int32.ofNat a.1 = v) (k : WP X M R B E nc u (pc + 1) pl (.int v :: st) h) : WP X M R B E nc u pc pl (.ref q :: st) h := by
  intro p e s m args below meth c n0 H ls locs hG hn hl hP hS
  exact va_alen (rest := st.map (wv X)) hG.1 hG.2.1 (wG_K hG) hP q t (ww_at X he) ht (by rw [wq_len]; exact hv) hd (k p e s m args below meth c n0 H ls locs hG hn hl hP hS)
theorem w_ti {q n : Nat} {f : Nat → Int32} {i : Int32} (hd : decode M.2.1 pc = .ok (.iaload, 1)) (he : (xo X)[q]? = some (n, f)) (hi : vp_in i n) (k : WP X M R B E nc u (pc + 1) pl (.int (f i.toNatClampNeg) :: st) h) : WP X M R B E nc u pc pl (.int i :: .ref (1000 + q) :: st) h := by
  intro p e s m args below meth c n0 H ls locs hG hn hl hP hS
  exact va_ti (rest := st.map (wv X)) hG.1 hG.2.1 (wK_T (wG_W hG) he) hS hi rfl hd (k p e s m args below meth c n0 H ls locs hG hn hl hP hS)
theorem w_tlen {q n : Nat} {f : Nat → Int32} {v : Int32} (hd : decode M.2.1 pc = .ok (.arraylength, 1)) (he : (xo X)[q]? = some (n, f)) (hv : Int32.ofNat n = v) (k : WP X M R B E nc u (pc + 1) pl (.int v :: st) h) : WP X M R B E nc u pc pl (.ref (1000 + q) :: st) h := by
  intro p e s m args below meth c n0 H ls locs hG hn hl hP hS
  exact va_tlen (rest := st.map (wv X)) hG.1 hG.2.1 (wK_T (wG_W hG) he) hS hv hd (k p e s m args below meth c n0 H ls locs hG hn hl hP hS)
theorem w_iast {q n : Nat} {f : Nat → Int32} {i : Int32} {x : Int32} (hd : decode M.2.1 pc = .ok (.iastore, 1)) (he : h[q]? = some (.inl (0, n, .inl f))) (hi : vp_in i n) (k : WP X M R B E nc u (pc + 1) pl st (h.set q (.inl (0, n, .inl (upd f i.toNatClampNeg x))))) : WP X M R B E nc u pc pl (.int x :: .int i :: .ref q :: st) h := by
  intro p e s m args below meth c n0 H ls locs hG hn hl hP hS
  refine va_iast (x := x) (rest := st.map (wv X)) hG.1 hG.2.1 (wG_K hG) hP (wG_D hG hn) hS q 0 (ww_at X he) rfl hi hd (fun H1 locs1 hP1 hD1 hS1 => ?_)
  refine k p e s m args below meth c n0 H1 ls locs1 hG (wn_set hn) hl ?_ hS1
  rw [ww_set0]
  exact hP1
theorem w_zast {q n : Nat} {f : Nat → Int32} {i : Int32} {x : Int32} (hd : decode M.2.1 pc = .ok (.bastore, 1)) (he : h[q]? = some (.inl (2, n, .inl f))) (hi : vp_in i n) (k : WP X M R B E nc u (pc + 1) pl st (h.set q (.inl (2, n, .inl (upd f i.toNatClampNeg (vp_nar .boolean x)))))) : WP X M R B E nc u pc pl (.int x :: .int i :: .ref q :: st) h := by
  intro p e s m args below meth c n0 H ls locs hG hn hl hP hS
  refine va_zast (x := x) (rest := st.map (wv X)) hG.1 hG.2.1 (wG_K hG) hP (wG_D hG hn) hS q 2 (ww_at X he) rfl hi hd (fun H1 locs1 hP1 hD1 hS1 => ?_)
  refine k p e s m args below meth c n0 H1 ls locs1 hG (wn_set hn) hl ?_ hS1
  rw [ww_set0]
  exact hP1
theorem w_last {q n : Nat} {f : Nat → Int64} {i : Int32} {x : Int64} (hd : decode M.2.1 pc = .ok (.lastore, 1)) (he : h[q]? = some (.inl (1, n, .inr (.inl f)))) (hi : vp_in i n) (k : WP X M R B E nc u (pc + 1) pl st (h.set q (.inl (1, n, .inr (.inl (vp_updL f i.toNatClampNeg x)))))) : WP X M R B E nc u pc pl (.long x :: .int i :: .ref q :: st) h := by
  intro p e s m args below meth c n0 H ls locs hG hn hl hP hS
  refine va_last (x := x) (rest := st.map (wv X)) hG.1 hG.2.1 (wG_K hG) hP (wG_D hG hn) hS q 1 (ww_at X he) rfl hi hd (fun H1 locs1 hP1 hD1 hS1 => ?_)
  refine k p e s m args below meth c n0 H1 ls locs1 hG (wn_set hn) hl ?_ hS1
  rw [ww_set0]
  exact hP1
theorem w_aast {q n t ci v : Nat} {r : vw_C} {vs : List Value} {f : Nat → Option Nat} {i : Int32} (hd : decode M.2.1 pc = .ok (.aastore, 1)) (he : h[q]? = some (.inl (t, n, .inr (.inr (.inr (.inr f)))))) (ht : (wty X)[t]? = some (xc X t, .object r.1)) (hv : h[v]? = some (.inr (ci, vs))) (hc : wcl[ci]? = some r) (hi : vp_in i n) (k : WP X M R B E nc u (pc + 1) pl st (h.set q (.inl (t, n, .inr (.inr (.inr (.inr (va_up f i.toNatClampNeg (some v))))))))) : WP X M R B E nc u pc pl (.ref v :: .int i :: .ref q :: st) h := by
  intro p e s m args below meth c n0 H ls locs hG hn hl hP hS
  refine va_astq (rest := st.map (wv X)) hG.1 hG.2.1 (wG_K hG) hP (wG_D hG hn) hS q t v ci (ww_at X he) ht (ww_at X hv) hc hi hd (fun H1 locs1 hP1 hD1 hS1 => ?_)
  refine k p e s m args below meth c n0 H1 ls locs1 hG (wn_set hn) hl ?_ hS1
  rw [ww_set0]
  have e9 : we X (.inl (t, n, .inr (.inr (.inr (.inr (va_up f i.toNatClampNeg (some v))))))) = .inl (xc X t, n, .inr (.inr (.inr (.inr (va_up (fun j => (f j).map (xa X)) i.toNatClampNeg (some (xa X v))))))) := by
    simp only [we, wq, va_up]
    congr 7
    funext j
    split <;> simp_all [va_up]
  rw [e9]
  exact hP1
end WR
end
section
/-! fields, new cells, calls, ends -/
/-- a field by the number of its class and its own number, as the pool of class own spells it at idx -/
def wF (own : String) (idx ci k : Nat) : Prop := ∃ r : vw_C, wcl[ci]? = some r ∧ k < r.2.2 ∧ (Cond.fieldLink own idx (r.2.1 k).1 (r.2.1 k).2.1 (r.2.1 k).2.2.1 ∈ wWL ∨ ∃ host, (own, idx, (r.2.1 k).1, (r.2.1 k).2.1, (r.2.1 k).2.2.1, host) ∈ wNF)
theorem wv_nar {X : wX} {ty : FieldType} {v : Value} (h : narrow ty v = v) : narrow ty (wv X v) = wv X v := by
  cases v with
  | ref a => cases ty <;> rfl
  | _ => exact h
theorem wv_fits (X : wX) (ty : FieldType) (v : Value) : fits ty (wv X v) = fits ty v := by
  cases v with
  | ref a => cases ty <;> rfl
  | _ => rfl
theorem wW_size {p : Program} {l : Launch} {e : Env} {R : Room} {s : State} {m : MethodId} {args : Array Value} {below : List Frame} {meth : Method} {c : Code} {H : Heap} {locs : List Loc} {cells slots : Nat} {Q : State → Prop} {g : JFrame}
    (f : H.size ≤ s.heap.size + cells → W p l e R s m args below meth c H locs cells slots Q g) : W p l e R s m args below meth c H locs cells slots Q g := fun T hT Y => f (by rw [← hT]; exact Y.heapSize) T hT Y
theorem wsize {X : wX} {s : State} {H : Heap} {h : wH} {n0 nc : Nat} {locs : List Loc} (hok : ∀ k, k < 1000 → xa X k = xz X + k) (hs : s.heap.size = xz X + n0) (hl : h.length = n0 + nc) (hb : h.length ≤ 1000) (hP : va_P (xD X) wcl (ww X 0 h) H) (hS : va_S (xA X) s.heap H locs) (hle : H.size ≤ s.heap.size + nc) : H.size = xz X + h.length := by
  have h1 : xz X + h.length ≤ H.size := by
    rcases Nat.eq_zero_or_pos h.length with hz | hz
    · have := hS.1
      omega
    · have hlt : h.length - 1 < h.length := by omega
      have hx := (hP (h.length - 1) _ (ww_at X (List.getElem?_eq_getElem hlt))).lt
      have hy := hok (h.length - 1) (by omega)
      have hx' : xa X (h.length - 1) < H.size := hx
      omega
  omega
/-! a method's contract -/
def wR (d mc ms : Nat) : Room := { frames := d, cells := mc, slots := ms, locals := 40 * d }
def wQc (X : wX) (n : Nat) (Q : Option Value → wH → Prop) : Array Value → State → Outcome → State → Prop := fun _ st o t => (∃ (r : Option Value) (h' : wH), o = .returned (r.map (wv X)) ∧ Q r h' ∧ h'.length = n ∧ va_P (xD X) wcl (ww X 0 h') t.heap) ∧ va_F (xA X) st t
def wEm (X : wX) (mc ms : Nat) (Q : Option Value → wH → Prop) : wN := fun below args s n0 => MQ below (wQc X (n0 + mc) Q) args s mc ms (xA X)
def wPc (X : wX) (mc : Nat) (as : List Value) (h : wH) : Array Value → State → Prop := va_Pc (as.map (wv X)) (fun U => U.heap.size = xz X + h.length ∧ h.length + mc ≤ 1000 ∧ va_P (xD X) wcl (ww X 0 h) U.heap ∧ wK X U)
def PM (X : wX) (M : wM) (d mc ms : Nat) (as : List Value) (h : wH) (Q : Option Value → wH → Prop) : Prop :=
  Met (xl X) M.1 (Cond.code M.1 M.2.1 M.2.2.1 M.2.2.2 :: wWL) (wR d mc ms) (wPc X mc as h) (wQc X (h.length + mc) Q) mc ms (xA X)
theorem wPc_blind (X : wX) (mc : Nat) (as : List Value) (h : wH) : FrameBlind (wPc X mc as h) := by
  intro a U g mk q
  obtain ⟨q0, q1, q2, q3, q4⟩ := q
  exact ⟨q0, q1, q2, q3, q4.same rfl rfl⟩
theorem wen_sl (X : wX) (as : List Value) : (lg_sl (as.map (wv X))).length = (wen as).length := by
  induction as with
  | nil => rfl
  | cons v r ih =>
    have e : lg_sl ((v :: r).map (wv X)) = (if (wv X v).category = 2 then [Slot.val (wv X v), .second] else [.val (wv X v)]) ++ lg_sl (r.map (wv X)) := by
      simp only [lg_sl, List.map_cons, List.flatMap_cons]
    rw [e, List.length_append, ih, wv_cat]
    cases v <;> simp [wen, Value.category] <;> omega
theorem wen_args (X : wX) : ∀ (as : List Value) (k i : Nat) (v : Value), (wen as)[i]? = some (some v) → (k + i, wv X v) ∈ lv_args k (as.map (wv X))
  | [], k, i, v, h => by simp [wen] at h
  | .long x :: r, k, 0, v, h => by
    simp [wen] at h
    subst h
    simp [lv_args, wv]
  | .long x :: r, k, 1, v, h => by simp [wen] at h
  | .long x :: r, k, i + 2, v, h => by
    have h2 := wen_args X r (k + 2) i v (by simpa [wen] using h)
    rw [show k + 2 + i = k + (i + 2) by omega] at h2
    simp only [List.map_cons, lv_args]
    exact List.mem_cons_of_mem _ h2
  | .double x :: r, k, 0, v, h => by
    simp [wen] at h
    subst h
    simp [lv_args, wv]
  | .double x :: r, k, 1, v, h => by simp [wen] at h
  | .double x :: r, k, i + 2, v, h => by
    have h2 := wen_args X r (k + 2) i v (by simpa [wen] using h)
    rw [show k + 2 + i = k + (i + 2) by omega] at h2
    simp only [List.map_cons, lv_args]
    exact List.mem_cons_of_mem _ h2
  | .int x :: r, k, 0, v, h => by
    simp [wen] at h
    subst h
    simp [lv_args, wv]
  | .int x :: r, k, i + 1, v, h => by
    have h2 := wen_args X r (k + 1) i v (by simpa [wen] using h)
    rw [show k + 1 + i = k + (i + 1) by omega] at h2
    simp only [List.map_cons, lv_args]
    exact List.mem_cons_of_mem _ h2
  | .float x :: r, k, 0, v, h => by
    simp [wen] at h
    subst h
    simp [lv_args, wv]
  | .float x :: r, k, i + 1, v, h => by
    have h2 := wen_args X r (k + 1) i v (by simpa [wen] using h)
    rw [show k + 1 + i = k + (i + 1) by omega] at h2
    simp only [List.map_cons, lv_args]
    exact List.mem_cons_of_mem _ h2
  | .null :: r, k, 0, v, h => by
    simp [wen] at h
    subst h
    simp [lv_args, wv]
  | .null :: r, k, i + 1, v, h => by
    have h2 := wen_args X r (k + 1) i v (by simpa [wen] using h)
    rw [show k + 1 + i = k + (i + 1) by omega] at h2
    simp only [List.map_cons, lv_args]
    exact List.mem_cons_of_mem _ h2
  | .ref x :: r, k, 0, v, h => by
    simp [wen] at h
    subst h
    simp [lv_args, wv]
  | .ref x :: r, k, i + 1, v, h => by
    have h2 := wen_args X r (k + 1) i v (by simpa [wen] using h)
    rw [show k + 1 + i = k + (i + 1) by omega] at h2
    simp only [List.map_cons, lv_args]
    exact List.mem_cons_of_mem _ h2
  | .retAddr x :: r, k, 0, v, h => by
    simp [wen] at h
    subst h
    simp [lv_args, wv]
  | .retAddr x :: r, k, i + 1, v, h => by
    have h2 := wen_args X r (k + 1) i v (by simpa [wen] using h)
    rw [show k + 1 + i = k + (i + 1) by omega] at h2
    simp only [List.map_cons, lv_args]
    exact List.mem_cons_of_mem _ h2
/-- a contract out of a walk from the method's entry -/
theorem PM.of {X : wX} {M : wM} {d mc ms : Nat} {as : List Value} {h : wH} {Q : Option Value → wH → Prop} (hy : plainName M.1.cls = true) (hlen : Nat.ble (wen as).length M.2.2.1 = true) (k : WP X M (wR d mc ms) mc (wEm X mc ms Q) 0 0 0 (wen as) [] h) : PM X M d mc ms as h Q := by
  refine Met.ofW (cc := M.2.1) (maxL := M.2.2.1) (ret := M.2.2.2) hy rfl ?_
  intro p e s m args below meth c s₁ Bd hml hv
  obtain ⟨rfl, hsz, h1000, hP, hK⟩ := hv
  have hts := atoms_spec (ws := Cond.code M.1 M.2.1 M.2.2.1 M.2.2.2 :: wWL) Bd.pre
  have hown : s.vm.findClass M.1.cls = some m.cls := findClass_of_methodNamed Bd.named
  have hl := lv_entry (as.map (wv X)) (n := M.2.2.1) (by rw [wen_sl]; exact Nat.le_of_ble_eq_true hlen)
  rw [lg_entry_eq]
  have hG : wG X M (wR d mc ms) mc p s m (as.map (wv X)).toArray meth c h.length := ⟨Bd.exec, Bd.bytes, Bd.returns, Bd.notSynchronized, hml, hown, (name_of_methodNamed Bd.named Bd.method).1, fun w hw => hts w (List.mem_cons_of_mem _ hw), hK, hsz, h1000, Nat.le_refl _⟩
  refine k p e s m _ below meth c h.length s.heap _ [] hG ⟨rfl, Nat.zero_le _, Nat.zero_le _⟩ ⟨hl.1, hl.2.1, fun q hq => ?_⟩ hP va_S.rf
  obtain ⟨i, w⟩ := q
  obtain ⟨v, hv, rfl⟩ := wll_mem.mp hq
  have h9 := wen_args X as 0 i v hv
  rw [Nat.zero_add] at h9
  exact hl.2.2 _ h9
/-- less known of the locals -/
def wle : List (Option Value) → List (Option Value) → Prop
  | [], _ => True
  | none :: r, [] => wle r []
  | none :: r, _ :: r' => wle r r'
  | some _ :: _, [] => False
  | some v :: r, o :: r' => o = some v ∧ wle r r'
theorem wle_get : ∀ (a b : List (Option Value)), wle a b → ∀ (i : Nat) (v : Value), a[i]? = some (some v) → b[i]? = some (some v)
  | [], _, _, i, v, h => by simp at h
  | none :: r, [], hw, 0, v, h => by simp at h
  | none :: r, [], hw, i + 1, v, h => by
    have := wle_get r [] hw i v (by simpa using h)
    simp at this
  | none :: r, o :: r', hw, 0, v, h => by simp at h
  | none :: r, o :: r', hw, i + 1, v, h => by simpa using wle_get r r' hw i v (by simpa using h)
  | some w :: r, [], hw, i, v, h => hw.elim
  | some w :: r, o :: r', hw, 0, v, h => by
    simp at h
    subst h
    simpa using hw.1
  | some w :: r, o :: r', hw, i + 1, v, h => by simpa using wle_get r r' hw.2 i v (by simpa using h)
section WC
variable {X : wX} {M : wM} {R : Room} {B : Nat} {E : wN} {nc u pc : Nat} {pl : List (Option Value)} {st : List Value} {h : wH}
theorem w_le {pl' : List (Option Value)} (hle : wle pl' pl) (k : WP X M R B E nc u pc pl' st h) : WP X M R B E nc u pc pl st h := by
  intro p e s m args below meth c n0 H ls locs hG hn hl hP hS
  refine k p e s m args below meth c n0 H ls locs hG hn ⟨hl.1, hl.2.1, fun q hq => ?_⟩ hP hS
  obtain ⟨i, w⟩ := q
  obtain ⟨v, hv, rfl⟩ := wll_mem.mp hq
  exact wl_at hl (wle_get _ _ hle i v hv)
theorem w_get {q idx ci kf : Nat} {fs : List Value} {v : Value} (hd : decode M.2.1 pc = .ok (.getfield idx, 3)) (hf : wF M.1.cls idx ci kf) (he : h[q]? = some (.inr (ci, fs))) (hv : fs[kf]? = some v) (k : WP X M R B E nc u (pc + 3) pl (v :: st) h) : WP X M R B E nc u pc pl (.ref q :: st) h := by
  intro p e s m args below meth c n0 H ls locs hG hn hl hP hS
  obtain ⟨⟨C, T, N⟩, hc, hk, hlk⟩ := hf
  have hv' : (fs.map (wv X))[kf]? = some (wv X v) := by rw [List.getElem?_map, hv]; rfl
  have k9 := k p e s m args below meth c n0 H ls locs hG hn hl hP hS
  rcases hlk with hlk | ⟨host, hlk⟩
  · exact va_get (ref := (T kf).1) (rest := st.map (wv X)) hG.1 hG.2.1 (wG_ts hG) (wcl_in _ _ hc) (wG_own hG) (wG_K hG) hP q (ww_at X he) hc kf hk (wG_ts hG _ hlk) (fun _ z => z) hv' hd k9
  · exact va_getN (ref := (T kf).1) (host := host) (rest := st.map (wv X)) hG.1 hG.2.1 (wG_ts hG) (wcl_in _ _ hc) (wG_own hG) (wG_K hG) hP q (ww_at X he) hc kf hk (va_Nw.use rfl ((wG_W hG).2.2.1 _ hlk)) (fun _ z => z) hv' hd k9
theorem w_put {q idx ci kf : Nat} {fs : List Value} {v v0 : Value} (hd : decode M.2.1 pc = .ok (.putfield idx, 3)) (hf : wF M.1.cls idx ci kf) (hfn : wfn ci kf = false) (he : h[q]? = some (.inr (ci, fs))) (hv0 : fs[kf]? = some v0) (hn0 : narrow (wct ci kf) v = v) (hfit : fits (wct ci kf) v = true) (k : WP X M R B E nc u (pc + 3) pl st (h.set q (.inr (ci, fs.set kf v)))) : WP X M R B E nc u pc pl (v :: .ref q :: st) h := by
  intro p e s m args below meth c n0 H ls locs hG hn hl hP hS
  obtain ⟨⟨C, T, N⟩, hc, hk, hlk⟩ := hf
  have hfin : (T kf).2.2.2 = false := wfn_ok _ _ hc kf hfn
  have hlt : kf < (fs.map (wv X)).length := by rw [List.length_map]; exact (List.getElem?_eq_some_iff.mp hv0).1
  have fin : ∀ (H1 : Heap) (locs1 : List Loc), va_P (xD X) wcl ((ww X 0 h).set q (xa X q, .inr (ci, (fs.map (wv X)).set kf (wv X v)))) H1 → va_D (xA X) ((ww X 0 h).set q (xa X q, .inr (ci, (fs.map (wv X)).set kf (wv X v)))) → va_S (xA X) s.heap H1 locs1 → W p (xl X) e R s m args below meth c H1 locs1 nc u (E below args s n0) (F0 m (pc + 3) ls (st.map (wv X))) := by
    intro H1 locs1 hP1 _ hS1
    refine k p e s m args below meth c n0 H1 ls locs1 hG (wn_set hn) hl ?_ hS1
    rw [ww_set0]
    have e9 : we X (.inr (ci, fs.set kf v)) = .inr (ci, (fs.map (wv X)).set kf (wv X v)) := by
      simp only [we, List.map_set]
    rw [e9]
    exact hP1
  rcases hlk with hlk | ⟨host, hlk⟩
  · exact va_put (ref := (T kf).1) (ty := wct ci kf) (rest := st.map (wv X)) hG.1 hG.2.1 (wG_ts hG) (wcl_in _ _ hc) (wct ci) (wct_ok _ _ hc) (wcn_ok _ _ hc) (wG_own hG) (wG_K hG) hP (wG_D hG hn) hS q (ww_at X he) hc kf hk (wG_ts hG _ hlk) (fun _ z => z) hfin (wct_ok _ _ hc kf hk) (wv_nar hn0) (by rw [wv_fits]; exact hfit) hlt hd fin
  · exact va_putN (ref := (T kf).1) (host := host) (ty := wct ci kf) (rest := st.map (wv X)) hG.1 hG.2.1 (wG_ts hG) (wcl_in _ _ hc) (wct ci) (wct_ok _ _ hc) (wcn_ok _ _ hc) (wG_own hG) (wG_K hG) hP (wG_D hG hn) hS q (ww_at X he) hc kf hk (va_Nw.use rfl ((wG_W hG).2.2.1 _ hlk)) (fun _ z => z) hfin (wct_ok _ _ hc kf hk) (wv_nar hn0) (by rw [wv_fits]; exact hfit) hlt hd fin
/-- a final field, in its constructor -/
theorem w_putF {q idx ci kf : Nat} {fs : List Value} {v v0 : Value} (hd : decode M.2.1 pc = .ok (.putfield idx, 3)) (hf : wF M.1.cls idx ci kf) (hfn : wff ci kf M.1.cls = true) (hin : M.1.name = "<init>") (hnn : ∀ host, (M.1.cls, idx, host) ∉ wNF.map (fun q => (q.1, q.2.1, q.2.2.2.2.2))) (he : h[q]? = some (.inr (ci, fs))) (hv0 : fs[kf]? = some v0) (hn0 : narrow (wct ci kf) v = v) (hfit : fits (wct ci kf) v = true) (k : WP X M R B E nc u (pc + 3) pl st (h.set q (.inr (ci, fs.set kf v)))) : WP X M R B E nc u pc pl (v :: .ref q :: st) h := by
  intro p e s m args below meth c n0 H ls locs hG hn hl hP hS
  obtain ⟨⟨C, T, N⟩, hc, hk, hlk⟩ := hf
  have hfin : (T kf).2.2.2 = true ∧ (T kf).1 = M.1.cls := wff_ok _ _ hc kf _ hfn
  have hlt : kf < (fs.map (wv X)).length := by rw [List.length_map]; exact (List.getElem?_eq_some_iff.mp hv0).1
  rcases hlk with hlk | ⟨host, hlk⟩
  · refine va_putF (ref := (T kf).1) (ty := wct ci kf) (rest := st.map (wv X)) hG.1 hG.2.1 (wG_ts hG) (wcl_in _ _ hc) (wct ci) (wct_ok _ _ hc) (wcn_ok _ _ hc) (wG_own hG) (wG_K hG) hP (wG_D hG hn) hS q (ww_at X he) hc kf hk (wG_ts hG _ hlk) (fun _ z => z) hfin.1 (hG.2.2.2.2.2.2.1.trans hin) hfin.2 (wct_ok _ _ hc kf hk) (wv_nar hn0) (by rw [wv_fits]; exact hfit) hlt hd (fun H1 locs1 hP1 _ hS1 => ?_)
    refine k p e s m args below meth c n0 H1 ls locs1 hG (wn_set hn) hl ?_ hS1
    rw [ww_set0]
    have e9 : we X (.inr (ci, fs.set kf v)) = .inr (ci, (fs.map (wv X)).set kf (wv X v)) := by
      simp only [we, List.map_set]
    rw [e9]
    exact hP1
  · exact absurd (List.mem_map.mpr ⟨_, hlk, rfl⟩) (hnn host)
/-- a table of ints that nobody writes -/
theorem w_gets {idx i : Nat} {C n : String} (hd : decode M.2.1 pc = .ok (.getstatic idx, 3)) (hf : (C, n, i) ∈ wSF) (hw : Cond.fieldLink M.1.cls idx C n "[I" ∈ wWL) (k : WP X M R B E nc u (pc + 3) pl (.ref (1000 + i) :: st) h) : WP X M R B E nc u pc pl st h := by
  intro p e s m args below meth c n0 H ls locs hG hn hl hP hS
  exact va_gets (rest := st.map (wv X)) hG.1 hG.2.1 ((wG_W hG).2.2.2.2.2.1 _ hf) hS (wG_own hG) (wG_ts hG _ hw) (fun _ z => z) hd (k p e s m args below meth c n0 H ls locs hG hn hl hP hS)
/-- a literal -/
theorem w_ldcS {idx i : Nat} {tx : String} (hd : decode M.2.1 pc = .ok (.ldc idx, 2)) (hf : (M.1.cls, idx, tx, i) ∈ wSS) (k : WP X M R B E nc u (pc + 2) pl (.ref (1100 + i) :: st) h) : WP X M R B E nc u pc pl st h := by
  intro p e s m args below meth c n0 H ls locs hG hn hl hP hS
  exact va_ldcS (rest := st.map (wv X)) hG.1 hG.2.1 (wG_own hG) ((wG_W hG).2.2.2.2.2.2.1 _ hf) hd (k p e s m args below meth c n0 H ls locs hG hn hl hP hS)
/-! ends -/
theorem w_iret {v : Int32} {Q : Option Value → wH → Prop} (hd : decode M.2.1 pc = .ok (.ireturn, 1)) (hr : M.2.2.2 = some .int) (hq : Q (some (.int v)) h) : WP X M R B (wEm X nc R.slots Q) nc u pc pl [.int v] h := by
  intro p e s m args below meth c n0 H ls locs hG hn hl hP hS
  exact W.widen (Nat.le_refl _) hn.2.2 (W.iret (v := v) hG.1 hG.2.1 (hG.2.2.1.trans hr) (fun t ht hW => ⟨⟨some (.int v), h, rfl, hq, hn.1, by rw [ht]; exact hP⟩, hS.F ht⟩) hS.2.2 hd hG.2.2.2.1)
theorem w_zret {v : Int32} {Q : Option Value → wH → Prop} (hd : decode M.2.1 pc = .ok (.ireturn, 1)) (hr : M.2.2.2 = some .boolean) (hb : v = 0 ∨ v = 1) (hq : Q (some (.int v)) h) : WP X M R B (wEm X nc R.slots Q) nc u pc pl [.int v] h := by
  intro p e s m args below meth c n0 H ls locs hG hn hl hP hS
  have hz : narrow .boolean (.int v) = .int v := by rcases hb with rfl | rfl <;> decide +kernel
  exact W.widen (Nat.le_refl _) hn.2.2 (W.zret (v := v) (ty := .boolean) hG.1 hG.2.1 (hG.2.2.1.trans hr) hz (fun t ht hW => ⟨⟨some (.int v), h, rfl, hq, hn.1, by rw [ht]; exact hP⟩, hS.F ht⟩) hS.2.2 hd hG.2.2.2.1)
theorem w_lret {v : Int64} {Q : Option Value → wH → Prop} (hd : decode M.2.1 pc = .ok (.lreturn, 1)) (hr : M.2.2.2 = some .long) (hq : Q (some (.long v)) h) : WP X M R B (wEm X nc R.slots Q) nc u pc pl [.long v] h := by
  intro p e s m args below meth c n0 H ls locs hG hn hl hP hS
  exact W.widen (Nat.le_refl _) hn.2.2 (W.lret (v := v) hG.1 hG.2.1 (hG.2.2.1.trans hr) (fun t ht hW => ⟨⟨some (.long v), h, rfl, hq, hn.1, by rw [ht]; exact hP⟩, hS.F ht⟩) hS.2.2 hd hG.2.2.2.1)
theorem w_vret {Q : Option Value → wH → Prop} (hd : decode M.2.1 pc = .ok (.return_, 1)) (hr : M.2.2.2 = none) (hq : Q none h) : WP X M R B (wEm X nc R.slots Q) nc u pc pl [] h := by
  intro p e s m args below meth c n0 H ls locs hG hn hl hP hS
  exact W.widen (Nat.le_refl _) hn.2.2 (W.vret hG.1 hG.2.1 (hG.2.2.1.trans hr) (fun t ht hW => ⟨⟨none, h, rfl, hq, hn.1, by rw [ht]; exact hP⟩, hS.F ht⟩) hS.2.2 hd hG.2.2.2.1)
theorem w_aret {v : Value} {rt : FieldType} {Q : Option Value → wH → Prop} (hd : decode M.2.1 pc = .ok (.areturn, 1)) (hr : M.2.2.2 = some rt) (hrt : (∃ n, rt = .object n) ∨ ∃ t, rt = .array t) (hv : wref v = true) (hq : Q (some v) h) : WP X M R B (wEm X nc R.slots Q) nc u pc pl [v] h := by
  intro p e s m args below meth c n0 H ls locs hG hn hl hP hS
  have hv' : wv X v = .null ∨ ∃ a, wv X v = .ref a := by
    rcases wref_or hv with rfl | ⟨q, rfl⟩
    · exact Or.inl rfl
    · exact Or.inr ⟨_, rfl⟩
  exact W.widen (Nat.le_refl _) hn.2.2 (W.aret (v := wv X v) hG.1 hG.2.1 (hG.2.2.1.trans hr) hrt hv' (fun t ht hW => ⟨⟨some v, h, rfl, hq, hn.1, by rw [ht]; exact hP⟩, hS.F ht⟩) hS.2.2 hd hG.2.2.2.1)
/-! calls -/
theorem w_after {p : Program} {e : Env} {s : State} {m : MethodId} {args : Array Value} {below : List Frame} {meth : Method} {c : Code} {H : Heap} {locs : List Loc} {cells slots mc ms n : Nat} {ls : Array Slot} {st0 : List Value} {Qf : State → Prop} {a : Array Value} {Q : Option Value → wH → Prop}
    (hr : va_Run p (xl X) e R s m args below meth c H locs cells slots mc ms (F0 m pc ls st0) (st.map (wv X)) (wQc X n Q a) (xA X)) (hS : va_S (xA X) s.heap H locs)
    (kk : ∀ (r : Option Value) (h' : wH) (H1 : Heap) (locs1 : List Loc), Q r h' → h'.length = n → va_P (xD X) wcl (ww X 0 h') H1 → va_S (xA X) s.heap H1 locs1 → W p (xl X) e R s m args below meth c H1 locs1 (cells + mc) (slots + ms) Qf (F0 m (pc + 3) ls ((r.toList ++ st).map (wv X)))) : W p (xl X) e R s m args below meth c H locs cells slots Qf (F0 m pc ls st0) := by
  intro T hT Y
  obtain ⟨v, st₀, t, T', L, h0, Y', hL, e1, e2, ⟨⟨r, h', hv, hq, hl', hP'⟩, hz, hk⟩, stp⟩ := hr T hT Y
  cases hv
  rw [h0] at hz hk
  have hS' : va_S (xA X) s.heap T'.heap (locs ++ L) := by
    refine ⟨Nat.le_trans hS.1 (by rw [e1]; exact hz), fun q h1 h2 => ?_, fun q hq => ?_⟩
    · rw [e1, hk q (Nat.lt_of_lt_of_le h1 hS.1) h2]
      exact hS.2.1 q h1 h2
    · rcases List.mem_append.mp hq with h | h
      · exact hS.2.2 q h
      · exact hL q h
  obtain ⟨t2, a1, b1⟩ := kk r h' T'.heap (locs ++ L) hq hl' (by rw [e1]; exact hP') hS' T' rfl Y'
  refine ⟨t2, stp t2 ?_, b1⟩
  have e3 : (r.toList ++ st).map (wv X) = (r.map (wv X)).toList ++ st.map (wv X) := by cases r <;> rfl
  rw [e3] at a1
  exact a1
theorem w_cats (X : wX) (l : List Value) : ((l.map (wv X)).map fun v => v.category) = l.map fun v => v.category := by
  rw [List.map_map]
  congr 1
  funext v
  exact wv_cat X v
theorem wWL_good (M' : wM) (hc : Cond.code M'.1 M'.2.1 M'.2.2.1 M'.2.2.2 ∈ wWL) : GoodIn wWL (Cond.code M'.1 M'.2.1 M'.2.2.1 M'.2.2.2 :: wWL) := by
  intro w hw
  rcases List.mem_cons.mp hw with rfl | hw
  · exact ⟨hc, wWL_ok _ hc⟩
  · exact ⟨hw, wWL_ok _ hw⟩
/-- what the tables say of a method that is called: its number of arguments (without the receiver) is n -/
def wCy (M' : wM) (n : Nat) : Prop := Cond.code M'.1 M'.2.1 M'.2.2.1 M'.2.2.2 ∈ wWL ∧ Cond.initialized M'.1.cls ∈ wWL ∧ M'.1.cls ≠ "java/lang/invoke/MethodHandle" ∧ M'.1.cls ≠ "java/lang/invoke/VarHandle" ∧ (parseMethodDescriptor M'.1.desc).map (fun d => d.parameters.length) = some n ∧ M'.2.2.1 ≤ 21
def wCl (own : String) (idx : Nat) (M' : wM) : Prop := Cond.methodLink own idx M'.1 ∈ wWL ∨ ∃ host, (own, idx, M'.1, host) ∈ wNM
def wCv (M' : wM) : Prop := Cond.instanceMethod M'.1 ∈ wWL ∧ Cond.selects M'.1.cls M'.1 M'.1 ∈ wWL
theorem w_pre {p : Program} {s : State} {m : MethodId} {args : Array Value} {meth : Method} {c : Code} {H : Heap} {locs : List Loc} {n0 mc' : Nat} {as : List Value} (hG : wG X M R B p s m args meth c n0) (hn : h.length = n0 + nc ∧ nc ≤ B ∧ u ≤ R.slots) (hP : va_P (xD X) wcl (ww X 0 h) H) (hS : va_S (xA X) s.heap H locs) (hmc : nc + mc' ≤ B) (hle : H.size ≤ s.heap.size + nc) :
    ∀ U : State, U.heap = H → s.WarmedH U.vm → wPc X mc' as h (as.map (wv X)).toArray U := by
  intro U hU hW
  obtain ⟨g1, g2, g3⟩ := wG_size hG
  have hsz := wsize (wG_W hG).1 g1 hn.1 (by omega) hP hS hle
  exact ⟨rfl, by rw [hU]; exact hsz, by omega, by rw [hU]; exact hP, (wG_W hG).to hW (fun q h1 h2 => by rw [hU]; exact hS.2.1 q h1 h2)⟩
theorem w_callV {q idx ci n d' mc' ms' : Nat} {M' : wM} {as stk fs : List Value} {Q : Option Value → wH → Prop} {r0 : vw_C} (hd : decode M.2.1 pc = .ok (.invokevirtual idx, 3)) (hy : wCy M' n) (hl0 : wCl M.1.cls idx M') (hv0 : wCv M') (he : h[q]? = some (.inr (ci, fs))) (hc : wcl[ci]? = some r0) (hcn : r0.1 = M'.1.cls) (hst : stk = as.reverse ++ .ref q :: st) (hal : as.length = n) (hM : PM X M' d' mc' ms' (.ref q :: as) h Q) (hdd : d' + 1 ≤ R.frames) (hll : 40 * d' + 40 ≤ R.locals) (hmc : nc + mc' ≤ B) (hms : u + ms' ≤ R.slots) (hcat : (st.map fun v => v.category).sum ≤ 8)
    (k : ∀ r h', Q r h' → WP X M R B E (nc + mc') (u + ms') (pc + 3) pl (r.toList ++ st) h') : WP X M R B E nc u pc pl stk h := by
  subst hst
  intro p e s m args below meth c n0 H ls locs hG hn hl hP hS
  refine wW_size (fun hle => ?_)
  obtain ⟨y1, y2, y3, y4, y5, y6⟩ := hy
  have hpre := w_pre (as := .ref q :: as) hG hn hP hS hmc hle
  obtain ⟨g1, g2, g3⟩ := wG_size hG
  have hstk : ((as.reverse ++ .ref q :: st).map (wv X)) = (as.map (wv X)).reverse ++ .ref (xa X q) :: st.map (wv X) := by simp [wv]
  have hrec : ∃ cell : Cell, H[xa X q]? = some cell ∧ cell.vm.isStatics = false ∧ s.vm.findClass M'.1.cls = some cell.cls := by
    rw [← hcn]
    exact va_recv (wG_K hG) hP hc (ww_at X he)
  have hrun : va_Run p (xl X) e R s m args below meth c H locs nc u mc' ms' (F0 m pc ls ((as.reverse ++ .ref q :: st).map (wv X))) (st.map (wv X)) (wQc X (h.length + mc') Q (Value.ref (xa X q) :: as.map (wv X)).toArray) (xA X) := by
    have hR : (wR d' mc' ms').frames + 1 ≤ R.frames ∧ 8 + (M'.2.2.1 + 11) + (wR d' mc' ms').locals ≤ R.locals := ⟨hdd, by show 8 + (M'.2.2.1 + 11) + 40 * d' ≤ R.locals; omega⟩
    have hroom : 2 * (F0 m pc ls ((as.reverse ++ .ref q :: st).map (wv X))).monitorRoom + ((st.map (wv X)).map fun v => v.category).sum ≤ 8 := lv_room (by rw [w_cats]; exact hcat)
    rcases hl0 with hlk | ⟨host, hlk⟩
    · exact va_runV (C := M'.1.cls) (bytes := M'.2.1) (maxL := M'.2.2.1) (ret := M'.2.2.2) (n := n) (cc := M.2.1) (nL := M.2.2.1) (Ts := wWL) (own := M.1.cls) ⟨hG.1, hG.2.1, hG.2.2.2.2.1, wG_own hG, wG_ts hG⟩ hM ⟨callB_of n (wG_ts hG) (wWL_good M' y1) rfl rfl rfl (wG_ts hG _ y2) (wG_ts hG _ hlk) ⟨y3, y4, y5⟩ hR, wG_ts hG _ hv0.1, wG_ts hG _ hv0.2⟩ ⟨wPc_blind _ _ _ _, hrec, hpre⟩ rfl (by rw [List.length_map]; exact hal) hl.1 hstk hroom hd ⟨by omega, hms⟩
    · exact va_runVN (C := M'.1.cls) (host := host) (bytes := M'.2.1) (maxL := M'.2.2.1) (ret := M'.2.2.2) (n := n) (cc := M.2.1) (nL := M.2.2.1) (Ts := wWL) (own := M.1.cls) ⟨hG.1, hG.2.1, hG.2.2.2.2.1, wG_own hG, wG_ts hG⟩ hM ⟨va_cnB n (wG_ts hG) (wWL_good M' y1) rfl rfl rfl ((wG_W hG).2.2.2.1 _ hlk) (wG_ts hG _ y2) ⟨y3, y4, y5⟩ hR, wG_ts hG _ hv0.1, wG_ts hG _ hv0.2⟩ ⟨wPc_blind _ _ _ _, hrec, hpre⟩ rfl (by rw [List.length_map]; exact hal) hl.1 hstk hroom hd ⟨by omega, hms⟩
  exact w_after hrun hS (fun r h' H1 locs1 hq hl' hP' hS' => k r h' hq p e s m args below meth c n0 H1 ls locs1 hG ⟨by omega, hmc, hms⟩ hl hP' hS')
theorem w_callS {idx n d' mc' ms' : Nat} {M' : wM} {as stk : List Value} {Q : Option Value → wH → Prop} (hd : decode M.2.1 pc = .ok (.invokestatic idx, 3)) (hy : wCy M' n) (hl0 : wCl M.1.cls idx M') (hs0 : Cond.static M'.1 ∈ wWL) (hst : stk = as.reverse ++ st) (hal : as.length = n) (hM : PM X M' d' mc' ms' as h Q) (hdd : d' + 1 ≤ R.frames) (hll : 40 * d' + 40 ≤ R.locals) (hmc : nc + mc' ≤ B) (hms : u + ms' ≤ R.slots) (hcat : (st.map fun v => v.category).sum ≤ 8)
    (k : ∀ r h', Q r h' → WP X M R B E (nc + mc') (u + ms') (pc + 3) pl (r.toList ++ st) h') : WP X M R B E nc u pc pl stk h := by
  subst hst
  intro p e s m args below meth c n0 H ls locs hG hn hl hP hS
  refine wW_size (fun hle => ?_)
  obtain ⟨y1, y2, y3, y4, y5, y6⟩ := hy
  have hpre := w_pre (as := as) hG hn hP hS hmc hle
  obtain ⟨g1, g2, g3⟩ := wG_size hG
  have hstk : ((as.reverse ++ st).map (wv X)) = (as.map (wv X)).reverse ++ st.map (wv X) := by simp
  have hrun : va_Run p (xl X) e R s m args below meth c H locs nc u mc' ms' (F0 m pc ls ((as.reverse ++ st).map (wv X))) (st.map (wv X)) (wQc X (h.length + mc') Q (as.map (wv X)).toArray) (xA X) := by
    have hR : (wR d' mc' ms').frames + 1 ≤ R.frames ∧ 8 + (M'.2.2.1 + 11) + (wR d' mc' ms').locals ≤ R.locals := ⟨hdd, by show 8 + (M'.2.2.1 + 11) + 40 * d' ≤ R.locals; omega⟩
    have hroom : 2 * (F0 m pc ls ((as.reverse ++ st).map (wv X))).monitorRoom + ((st.map (wv X)).map fun v => v.category).sum ≤ 8 := lv_room (by rw [w_cats]; exact hcat)
    rcases hl0 with hlk | ⟨host, hlk⟩
    · exact va_runS (bytes := M'.2.1) (maxL := M'.2.2.1) (ret := M'.2.2.2) (n := n) (cc := M.2.1) (nL := M.2.2.1) (Ts := wWL) (own := M.1.cls) ⟨hG.1, hG.2.1, hG.2.2.2.2.1, wG_own hG, wG_ts hG⟩ hM ⟨callB_of n (wG_ts hG) (wWL_good M' y1) rfl rfl rfl (wG_ts hG _ y2) (wG_ts hG _ hlk) ⟨y3, y4, y5⟩ hR, wG_ts hG _ hs0⟩ ⟨wPc_blind _ _ _ _, hpre⟩ rfl (by rw [List.length_map]; exact hal) hl.1 hstk hroom hd ⟨by omega, hms⟩
    · exact va_runSN (host := host) (bytes := M'.2.1) (maxL := M'.2.2.1) (ret := M'.2.2.2) (n := n) (cc := M.2.1) (nL := M.2.2.1) (Ts := wWL) (own := M.1.cls) ⟨hG.1, hG.2.1, hG.2.2.2.2.1, wG_own hG, wG_ts hG⟩ hM ⟨va_cnB n (wG_ts hG) (wWL_good M' y1) rfl rfl rfl ((wG_W hG).2.2.2.1 _ hlk) (wG_ts hG _ y2) ⟨y3, y4, y5⟩ hR, wG_ts hG _ hs0, trivial⟩ ⟨wPc_blind _ _ _ _, hpre⟩ rfl (by rw [List.length_map]; exact hal) hl.1 hstk hroom hd ⟨by omega, hms⟩
  exact w_after hrun hS (fun r h' H1 locs1 hq hl' hP' hS' => k r h' hq p e s m args below meth c n0 H1 ls locs1 hG ⟨by omega, hmc, hms⟩ hl hP' hS')
theorem w_callI {q idx n d' mc' ms' : Nat} {M' : wM} {as stk : List Value} {Q : Option Value → wH → Prop} (hd : decode M.2.1 pc = .ok (.invokespecial idx, 3)) (hy : wCy M' n) (hyn : M'.1.name = "<init>") (hyr : M'.2.2.2 = none) (hl0 : wCl M.1.cls idx M') (hv0 : Cond.instanceMethod M'.1 ∈ wWL) (hst : stk = as.reverse ++ .ref q :: st) (hal : as.length = n) (hM : PM X M' d' mc' ms' (.ref q :: as) h Q) (hdd : d' + 1 ≤ R.frames) (hll : 40 * d' + 40 ≤ R.locals) (hmc : nc + mc' ≤ B) (hms : u + ms' ≤ R.slots) (hcat : (st.map fun v => v.category).sum ≤ 8)
    (k : ∀ r h', Q r h' → WP X M R B E (nc + mc') (u + ms') (pc + 3) pl (r.toList ++ st) h') : WP X M R B E nc u pc pl stk h := by
  subst hst
  obtain ⟨yM, bM, lM, rM⟩ := M'
  dsimp only at hyn hyr hv0
  subst hyr
  intro p e s m args below meth c n0 H ls locs hG hn hl hP hS
  refine wW_size (fun hle => ?_)
  obtain ⟨y1, y2, y3, y4, y5, y6⟩ := hy
  have hpre := w_pre (as := .ref q :: as) hG hn hP hS hmc hle
  obtain ⟨g1, g2, g3⟩ := wG_size hG
  have hstk : ((as.reverse ++ .ref q :: st).map (wv X)) = (as.map (wv X)).reverse ++ .ref (xa X q) :: st.map (wv X) := by simp [wv]
  have hrun : va_Run p (xl X) e R s m args below meth c H locs nc u mc' ms' (F0 m pc ls ((as.reverse ++ .ref q :: st).map (wv X))) (st.map (wv X)) (wQc X (h.length + mc') Q (Value.ref (xa X q) :: as.map (wv X)).toArray) (xA X) := by
    have hR : (wR d' mc' ms').frames + 1 ≤ R.frames ∧ 8 + (lM + 11) + (wR d' mc' ms').locals ≤ R.locals := ⟨hdd, by show 8 + (lM + 11) + 40 * d' ≤ R.locals; dsimp only at y6; omega⟩
    have hroom : 2 * (F0 m pc ls ((as.reverse ++ .ref q :: st).map (wv X))).monitorRoom + ((st.map (wv X)).map fun v => v.category).sum ≤ 8 := lv_room (by rw [w_cats]; exact hcat)
    rcases hl0 with hlk | ⟨host, hlk⟩
    · exact va_runI (bytes := bM) (maxL := lM) (n := n) (cc := M.2.1) (nL := M.2.2.1) (Ts := wWL) (own := M.1.cls) ⟨hG.1, hG.2.1, hG.2.2.2.2.1, wG_own hG, wG_ts hG⟩ hM ⟨callB_of n (wG_ts hG) (wWL_good (yM, bM, lM, none) y1) rfl rfl rfl (wG_ts hG _ y2) (wG_ts hG _ hlk) ⟨y3, y4, y5⟩ hR, hyn, wG_ts hG _ hv0⟩ ⟨wPc_blind _ _ _ _, hpre⟩ rfl (by rw [List.length_map]; exact hal) hl.1 hstk hroom hd ⟨by omega, hms⟩
    · exact va_runIN (host := host) (bytes := bM) (maxL := lM) (n := n) (cc := M.2.1) (nL := M.2.2.1) (Ts := wWL) (own := M.1.cls) ⟨hG.1, hG.2.1, hG.2.2.2.2.1, wG_own hG, wG_ts hG⟩ hM ⟨va_cnB n (wG_ts hG) (wWL_good (yM, bM, lM, none) y1) rfl rfl rfl ((wG_W hG).2.2.2.1 _ hlk) (wG_ts hG _ y2) ⟨y3, y4, y5⟩ hR, hyn, wG_ts hG _ hv0⟩ ⟨wPc_blind _ _ _ _, hpre⟩ rfl (by rw [List.length_map]; exact hal) hl.1 hstk hroom hd ⟨by omega, hms⟩
  exact w_after hrun hS (fun r h' H1 locs1 hq hl' hP' hS' => k r h' hq p e s m args below meth c n0 H1 ls locs1 hG ⟨by omega, hmc, hms⟩ hl hP' hS')
/-- Object's constructor -/
theorem w_objInit {q idx : Nat} (hd : decode M.2.1 pc = .ok (.invokespecial idx, 3)) (h1 : Cond.methodLink M.1.cls idx Lib.objectInit ∈ wWL) (h2 : Cond.instanceMethod Lib.objectInit ∈ wWL) (h3 : Cond.code Lib.objectInit ⟨#[0xb1]⟩ 1 none ∈ wWL) (hf : 1 ≤ R.frames) (hll : 40 ≤ R.locals) (hcat : (st.map fun v => v.category).sum ≤ 8) (k : WP X M R B E nc u (pc + 3) pl st h) : WP X M R B E nc u pc pl (.ref q :: st) h := by
  intro p e s m args below meth c n0 H ls locs hG hn hl hP hS
  have hroom : 2 * (F0 m pc ls ((Value.ref q :: st).map (wv X))).monitorRoom + ((st.map (wv X)).map fun v => v.category).sum ≤ 8 := lv_room (by rw [w_cats]; exact hcat)
  exact W.objInit (g := F0 m pc ls ((Value.ref q :: st).map (wv X))) (rest := st.map (wv X)) hG.1 hG.2.1 (wG_own hG) (wG_ts hG _ h1) (wG_ts hG _ h2) (wG_ts hG _ h3) rfl (hl.1.trans hG.2.2.2.2.1.symm) rfl hd hf (by omega) (k p e s m args below meth c n0 H ls locs hG hn hl hP hS)
end WC
end
section
/-! new cells, arraycopy -/
theorem wv_def (X : wX) (ty : FieldType) : wv X (defaultValue ty) = defaultValue ty := by cases ty <;> rfl
def wCN (own : String) (idx ci : Nat) : Prop := ∃ r : vw_C, wcl[ci]? = some r ∧ Cond.classLink own idx r.1 ∈ wWL ∧ Cond.instantiable r.1 r.2.2 ∈ wWL ∧ Cond.initialized r.1 ∈ wWL
/-- a fresh object's fields -/
def wdf (ci n : Nat) : List Value := (List.range n).map (fun j => defaultValue (wct ci j))
theorem wdf_map (X : wX) (ci n : Nat) : (wdf ci n).map (wv X) = wdf ci n := by
  unfold wdf
  rw [List.map_map]
  congr 1
  funext j
  exact wv_def X _
theorem wdf_at {ci n j : Nat} (h : j < n) : defaultValue (wct ci j) = vp_V (wdf ci n) j := by
  unfold vp_V wdf
  rw [List.getD_eq_getElem?_getD, List.getElem?_map, List.getElem?_range h]
  rfl
section WQ
variable {X : wX} {M : wM} {R : Room} {B : Nat} {E : wN} {nc u pc : Nat} {pl : List (Option Value)} {st : List Value} {h : wH}
/-- the world with one more cell -/
theorem w_grow {s : State} {H H1 : Heap} {locs : List Loc} {e : wE} (hP : va_P (xD X) wcl (ww X 0 h) H) (hS : va_S (xA X) s.heap H locs) (hz : H.size = xa X h.length) (z1 : H1.size = xa X h.length + 1) (o1 : ∀ q : Nat, q < xa X h.length → H1[q]? = H[q]?) (he : va_at (xD X) wcl (xa X h.length, we X e) H1) :
    va_P (xD X) wcl (ww X 0 (h ++ [e])) H1 ∧ va_S (xA X) s.heap H1 locs := by
  have hk : ∀ (k : Nat) (x : Nat × va_E), (ww X 0 h)[k]? = some x → H1[x.1]? = H[x.1]? := fun k x hx => o1 x.1 (by rw [← hz]; exact (hP k x hx).lt)
  refine ⟨?_, Nat.le_trans hS.1 (by omega), fun x g1 g2 => (o1 x (by rw [← hz]; exact Nat.lt_of_lt_of_le g1 hS.1)).trans (hS.2.1 x g1 g2), hS.2.2⟩
  rw [ww_push, Nat.zero_add]
  refine (hP.kept hk).app (fun k x hx => ?_)
  have hz9 : k < 1 := (List.getElem?_eq_some_iff.mp hx).1
  rw [show k = 0 by omega] at hx
  cases hx
  exact he
theorem w_new {idx ci n : Nat} (hd : decode M.2.1 pc = .ok (.new idx, 3)) (hc : wCN M.1.cls idx ci) (hN : ∀ r, wcl[ci]? = some r → r.2.2 = n) (hB : nc + 1 ≤ B) (hu : u + n ≤ R.slots) (k : WP X M R B E (nc + 1) (u + n) (pc + 3) pl (.ref h.length :: st) (h ++ [.inr (ci, wdf ci n)])) : WP X M R B E nc u pc pl st h := by
  intro p e s m args below meth c n0 H ls locs hG hn hl hP hS
  refine wW_size (fun hle => ?_)
  obtain ⟨⟨C, T, N⟩, hcl, h1, h2, h3⟩ := hc
  have hNn : N = n := hN _ hcl
  subst hNn
  obtain ⟨g1, g2, g3⟩ := wG_size hG
  have ha := (wG_W hG).1 h.length (by omega)
  have hsz : H.size = xa X h.length := by rw [ha]; exact wsize (wG_W hG).1 g1 hn.1 (by omega) hP hS hle
  have hKn := (wG_K hG).1 ci _ hcl
  refine W.newcK (g := F0 m pc ls (st.map (wv X))) hG.1 hG.2.1 (wG_own hG) (wG_ts hG _ h1) (wG_ts hG _ h2) (wG_ts hG _ h3) rfl hd (by omega) hu hKn.2.1 hsz fun H1 kC hkC e1 z1 o1 => ?_
  have he : va_at (xD X) wcl (xa X h.length, we X (.inr (ci, wdf ci N))) H1 := by
    show ∃ r : vw_C, wcl[ci]? = some r ∧ t_OB (xa X h.length) ((xD X).1 ci) r.2.2 ((xD X).2 ci) H1 (vp_V ((wdf ci N).map (wv X)))
    rw [wdf_map]
    exact ⟨_, hcl, (u_born (wct ci) (wG_ts hG) (wcl_in _ _ hcl) hKn hkC e1 (wct_ok _ _ hcl)).to (fun j hj => wdf_at hj)⟩
  obtain ⟨hP1, hS1⟩ := w_grow hP hS hsz z1 o1 he
  exact k p e s m args below meth c n0 H1 ls locs hG ⟨by rw [List.length_append, List.length_singleton]; omega, hB, hu⟩ hl hP1 hS1
theorem w_newI {n : Int32} {N : Nat} (hd : decode M.2.1 pc = .ok (.newarray .int, 2)) (hw : Cond.arrayClass .int ∈ wWL) (hn0 : ¬ n < 0) (hN : n.toNatClampNeg = N) (hsm : N ≤ 100000) (hB : nc + 1 ≤ B) (hu : u + N ≤ R.slots) (k : WP X M R B E (nc + 1) (u + N) (pc + 2) pl (.ref h.length :: st) (h ++ [.inl (0, N, .inl (fun _ => 0))])) : WP X M R B E nc u pc pl (.int n :: st) h := by
  intro p e s m args below meth c n0 H ls locs hG hn hl hP hS
  refine wW_size (fun hle => ?_)
  obtain ⟨g1, g2, g3⟩ := wG_size hG
  have ha := (wG_W hG).1 h.length (by omega)
  have hsz : H.size = xa X h.length := by rw [ha]; exact wsize (wG_W hG).1 g1 hn.1 (by omega) hP hS hle
  refine va_newaK (atype := .int) (g := F0 m pc ls ((Value.int n :: st).map (wv X))) (rest := st.map (wv X)) hG.1 hG.2.1 (wG_ts hG _ hw) rfl hd rfl hn0 hN (by show N * 4 ≤ _; omega) (by omega) hu hsz fun H1 cA e1 z1 o1 hAr hNm => ?_
  have hcA : cA = xc X 0 := by
    have h9 : s.vm.findClass ("[" ++ FieldType.int.toString) = some (xc X 0) := ((wG_K hG).2 0 _ rfl).2
    exact Option.some.inj (hNm.symm.trans h9)
  subst hcA
  obtain ⟨hP1, hS1⟩ := w_grow (e := .inl (0, N, .inl (fun _ => 0))) hP hS hsz z1 o1 e1
  exact k p e s m args below meth c n0 H1 ls locs hG ⟨by rw [List.length_append, List.length_singleton]; omega, hB, hu⟩ hl hP1 hS1
theorem w_newJ {n : Int32} {N : Nat} (hd : decode M.2.1 pc = .ok (.newarray .long, 2)) (hw : Cond.arrayClass .long ∈ wWL) (hn0 : ¬ n < 0) (hN : n.toNatClampNeg = N) (hsm : N ≤ 100000) (hB : nc + 1 ≤ B) (hu : u + N ≤ R.slots) (k : WP X M R B E (nc + 1) (u + N) (pc + 2) pl (.ref h.length :: st) (h ++ [.inl (1, N, .inr (.inl (fun _ => 0)))])) : WP X M R B E nc u pc pl (.int n :: st) h := by
  intro p e s m args below meth c n0 H ls locs hG hn hl hP hS
  refine wW_size (fun hle => ?_)
  obtain ⟨g1, g2, g3⟩ := wG_size hG
  have ha := (wG_W hG).1 h.length (by omega)
  have hsz : H.size = xa X h.length := by rw [ha]; exact wsize (wG_W hG).1 g1 hn.1 (by omega) hP hS hle
  refine va_newaK (atype := .long) (g := F0 m pc ls ((Value.int n :: st).map (wv X))) (rest := st.map (wv X)) hG.1 hG.2.1 (wG_ts hG _ hw) rfl hd rfl hn0 hN (by show N * 8 ≤ _; omega) (by omega) hu hsz fun H1 cA e1 z1 o1 hAr hNm => ?_
  have hcA : cA = xc X 1 := by
    have h9 : s.vm.findClass ("[" ++ FieldType.long.toString) = some (xc X 1) := ((wG_K hG).2 1 _ rfl).2
    exact Option.some.inj (hNm.symm.trans h9)
  subst hcA
  obtain ⟨hP1, hS1⟩ := w_grow (e := .inl (1, N, .inr (.inl (fun _ => 0)))) hP hS hsz z1 o1 e1
  exact k p e s m args below meth c n0 H1 ls locs hG ⟨by rw [List.length_append, List.length_singleton]; omega, hB, hu⟩ hl hP1 hS1
theorem w_newZ {n : Int32} {N : Nat} (hd : decode M.2.1 pc = .ok (.newarray .boolean, 2)) (hw : Cond.arrayClass .boolean ∈ wWL) (hn0 : ¬ n < 0) (hN : n.toNatClampNeg = N) (hsm : N ≤ 100000) (hB : nc + 1 ≤ B) (hu : u + N ≤ R.slots) (k : WP X M R B E (nc + 1) (u + N) (pc + 2) pl (.ref h.length :: st) (h ++ [.inl (2, N, .inl (fun _ => 0))])) : WP X M R B E nc u pc pl (.int n :: st) h := by
  intro p e s m args below meth c n0 H ls locs hG hn hl hP hS
  refine wW_size (fun hle => ?_)
  obtain ⟨g1, g2, g3⟩ := wG_size hG
  have ha := (wG_W hG).1 h.length (by omega)
  have hsz : H.size = xa X h.length := by rw [ha]; exact wsize (wG_W hG).1 g1 hn.1 (by omega) hP hS hle
  refine va_newaK (atype := .boolean) (g := F0 m pc ls ((Value.int n :: st).map (wv X))) (rest := st.map (wv X)) hG.1 hG.2.1 (wG_ts hG _ hw) rfl hd rfl hn0 hN (by show N * 1 ≤ _; omega) (by omega) hu hsz fun H1 cA e1 z1 o1 hAr hNm => ?_
  have hcA : cA = xc X 2 := by
    have h9 : s.vm.findClass ("[" ++ FieldType.boolean.toString) = some (xc X 2) := ((wG_K hG).2 2 _ rfl).2
    exact Option.some.inj (hNm.symm.trans h9)
  subst hcA
  obtain ⟨hP1, hS1⟩ := w_grow (e := .inl (2, N, .inl (fun _ => 0))) hP hS hsz z1 o1 e1
  exact k p e s m args below meth c n0 H1 ls locs hG ⟨by rw [List.length_append, List.length_singleton]; omega, hB, hu⟩ hl hP1 hS1
theorem w_newQ {n : Int32} {N t idx : Nat} {C : String} (hd : decode M.2.1 pc = .ok (.anewarray idx, 3)) (hw : Cond.classLink M.1.cls idx C ∈ wWL) (ho : C ∈ wAO) (ht : (wty X)[t]? = some (xc X t, .object C)) (hn0 : ¬ n < 0) (hN : n.toNatClampNeg = N) (hsm : N ≤ 100000) (hB : nc + 1 ≤ B) (hu : u + N ≤ R.slots) (k : WP X M R B E (nc + 1) (u + N) (pc + 3) pl (.ref h.length :: st) (h ++ [.inl (t, N, .inr (.inr (.inr (.inr (fun _ => none)))))])) : WP X M R B E nc u pc pl (.int n :: st) h := by
  subst hN
  intro p e s m args below meth c n0 H ls locs hG hn hl hP hS
  refine wW_size (fun hle => ?_)
  obtain ⟨g1, g2, g3⟩ := wG_size hG
  have ha := (wG_W hG).1 h.length (by omega)
  have hsz : H.size = xa X h.length := by rw [ha]; exact wsize (wG_W hG).1 g1 hn.1 (by omega) hP hS hle
  refine W.anew (g := F0 m pc ls ((Value.int n :: st).map (wv X))) (rest := st.map (wv X)) hG.1 hG.2.1 (wG_own hG) (wG_ts hG _ hw) (va_AO.use ((wG_W hG).2.2.2.2.2.2.2.2.1 _ ho)) rfl hd rfl hn0 (by omega) (by omega) hu fun cA kA comp f1 f2 f3 f4 => ?_
  obtain ⟨kA2, comp2, -, -, -, f5⟩ := ((wG_K hG).2 t _ ht).2
  have hcA : cA = xc X t := Option.some.inj (f1.symm.trans f5)
  subst hcA
  rw [hsz]
  generalize hH1 : H.push ({ cls := xc X t, slots := Array.replicate n.toNatClampNeg .null, vm := .none } : Cell) = H1
  have z1 : H1.size = xa X h.length + 1 := by rw [← hH1, Array.size_push, hsz]
  have e1 : H1[xa X h.length]? = some (arrV (xc X t) n.toNatClampNeg (fun _ => .null)) := by rw [← hH1, ← hsz, Array.getElem?_push_size, ← arrV_new]
  have o1 : ∀ q : Nat, q < xa X h.length → H1[q]? = H[q]? := fun q hq => by rw [← hH1, Array.getElem?_push, if_neg (by rw [hsz]; exact Nat.ne_of_lt hq)]
  obtain ⟨hP1, hS1⟩ := w_grow (e := .inl (t, n.toNatClampNeg, .inr (.inr (.inr (.inr (fun _ => none)))))) hP hS hsz z1 o1 e1
  exact k p e s m args below meth c n0 H1 ls locs hG ⟨by rw [List.length_append, List.length_singleton]; omega, hB, hu⟩ hl hP1 hS1
/-- System.arraycopy of ints, of longs -/
theorem w_copyI {idx q0 q1 n0' n1' : Nat} {f g : Nat → Int32} {sp dp n : Int32} (hd : decode M.2.1 pc = .ok (.invokestatic idx, 3)) (w1 : Cond.methodLink M.1.cls idx arraycopyName ∈ wWL) (w2 : Cond.native arraycopyName ∈ wWL) (w3 : Cond.static arraycopyName ∈ wWL) (w4 : Cond.initialized "java/lang/System" ∈ wWL) (he0 : h[q0]? = some (.inl (0, n0', .inl f))) (he1 : h[q1]? = some (.inl (0, n1', .inl g))) (h1 : ¬ sp < 0) (h2 : ¬ dp < 0) (h3 : ¬ n < 0) (h4 : sp.toNatClampNeg + n.toNatClampNeg ≤ n0') (h5 : dp.toNatClampNeg + n.toNatClampNeg ≤ n1') (hf : 1 ≤ R.frames) (hll : 40 ≤ R.locals) (hcat : (st.map fun v => v.category).sum ≤ 8)
    (k : WP X M R B E nc u (pc + 3) pl st (h.set q1 (.inl (0, n1', .inl (va_cpy f g sp.toNatClampNeg dp.toNatClampNeg n.toNatClampNeg))))) : WP X M R B E nc u pc pl (.int n :: .int dp :: .ref q1 :: .int sp :: .ref q0 :: st) h := by
  intro p e s m args below meth c n0 H ls locs hG hn hl hP hS
  have hcat' : ((st.map (wv X)).map fun v => v.category).sum ≤ 8 := by rw [w_cats]; exact hcat
  have hnf : nativeFrameWords "java/lang/System" "arraycopy" 5 = 7 := by decide +kernel
  refine va_copyi (ty := .int) (rest := st.map (wv X)) hG.1 hG.2.1 (hG.2.2.2.2.1.trans hl.1.symm) (wG_own hG) (wG_ts hG _ w1) (wG_ts hG _ w2) (wG_ts hG _ w3) (wG_ts hG _ w4) (wG_K hG) hP (wG_D hG hn) hS q0 q1 0 0 (ww_at X he0) (ww_at X he1) rfl rfl rfl h1 h2 h3 h4 h5 (fun _ _ => rfl) hf (by omega) hd (fun H1 locs1 hP1 _ hS1 => ?_)
  refine k p e s m args below meth c n0 H1 ls locs1 hG (wn_set hn) hl ?_ hS1
  rw [ww_set0]
  exact hP1
theorem w_copyJ {idx q0 q1 n0' n1' : Nat} {f g : Nat → Int64} {sp dp n : Int32} (hd : decode M.2.1 pc = .ok (.invokestatic idx, 3)) (w1 : Cond.methodLink M.1.cls idx arraycopyName ∈ wWL) (w2 : Cond.native arraycopyName ∈ wWL) (w3 : Cond.static arraycopyName ∈ wWL) (w4 : Cond.initialized "java/lang/System" ∈ wWL) (he0 : h[q0]? = some (.inl (1, n0', .inr (.inl f)))) (he1 : h[q1]? = some (.inl (1, n1', .inr (.inl g)))) (h1 : ¬ sp < 0) (h2 : ¬ dp < 0) (h3 : ¬ n < 0) (h4 : sp.toNatClampNeg + n.toNatClampNeg ≤ n0') (h5 : dp.toNatClampNeg + n.toNatClampNeg ≤ n1') (hf : 1 ≤ R.frames) (hll : 40 ≤ R.locals) (hcat : (st.map fun v => v.category).sum ≤ 8)
    (k : WP X M R B E nc u (pc + 3) pl st (h.set q1 (.inl (1, n1', .inr (.inl (va_cpy f g sp.toNatClampNeg dp.toNatClampNeg n.toNatClampNeg)))))) : WP X M R B E nc u pc pl (.int n :: .int dp :: .ref q1 :: .int sp :: .ref q0 :: st) h := by
  intro p e s m args below meth c n0 H ls locs hG hn hl hP hS
  have hcat' : ((st.map (wv X)).map fun v => v.category).sum ≤ 8 := by rw [w_cats]; exact hcat
  have hnf : nativeFrameWords "java/lang/System" "arraycopy" 5 = 7 := by decide +kernel
  refine va_copyl (ty := .long) (rest := st.map (wv X)) hG.1 hG.2.1 (hG.2.2.2.2.1.trans hl.1.symm) (wG_own hG) (wG_ts hG _ w1) (wG_ts hG _ w2) (wG_ts hG _ w3) (wG_ts hG _ w4) (wG_K hG) hP (wG_D hG hn) hS q0 q1 1 1 (ww_at X he0) (ww_at X he1) rfl rfl rfl h1 h2 h3 h4 h5 (fun _ _ => rfl) hf (by omega) hd (fun H1 locs1 hP1 _ hS1 => ?_)
  refine k p e s m args below meth c n0 H1 ls locs1 hG (wn_set hn) hl ?_ hS1
  rw [ww_set0]
  exact hP1
end WQ
end
section
/-! small helps of the walks -/
theorem wS_eq {h h1 : wH} {q : Nat} {e e0 : wE} (e1 : h1 = h.set q e) (he : h[q]? = some e0) : h1[q]? = some e := by
  rw [e1, List.getElem?_set_self (List.getElem?_eq_some_iff.mp he).1]
theorem wS_ne {h h1 : wH} {q p : Nat} {e x : wE} (e1 : h1 = h.set q e) (hne : q ≠ p) (he : h[p]? = some x) : h1[p]? = some x := by
  rw [e1, List.getElem?_set_ne hne]
  exact he
theorem wS_off {h h1 : wH} {q p : Nat} {e : wE} (e1 : h1 = h.set q e) (hne : p ≠ q) : h1[p]? = h[p]? := by
  rw [e1, List.getElem?_set_ne (fun z => hne z.symm)]
section WN
variable {X : wX} {M : wM} {R : Room} {B : Nat} {E : wN} {nc u pc : Nat} {pl : List (Option Value)} {st : List Value} {h : wH}
theorem w_nm (k : ∀ h1, h1 = h → WP X M R B E nc u pc pl st h1) : WP X M R B E nc u pc pl st h := k h rfl
theorem w_topi {x y : Int32} (e : x = y) (k : WP X M R B E nc u pc pl (.int y :: st) h) : WP X M R B E nc u pc pl (.int x :: st) h := by rw [e]; exact k
theorem w_topl {x y : Int64} (e : x = y) (k : WP X M R B E nc u pc pl (.long y :: st) h) : WP X M R B E nc u pc pl (.long x :: st) h := by rw [e]; exact k
end WN
theorem oInit1 : Cond.instanceMethod Lib.objectInit ∈ wWL := wIn 22 (by decide +kernel) (by decide +kernel)
theorem oInit2 : Cond.code Lib.objectInit ⟨#[0xb1]⟩ 1 none ∈ wWL := wIn 23 rfl (by decide +kernel)
theorem aCopy1 : Cond.native arraycopyName ∈ wWL := wIn 246 (by decide +kernel) (by decide +kernel)
theorem aCopy2 : Cond.static arraycopyName ∈ wWL := wIn 245 (by decide +kernel) (by decide +kernel)
theorem aCopy3 : Cond.initialized "java/lang/System" ∈ wWL := wIn 9 (by decide +kernel) (by decide +kernel)
theorem wArrI : Cond.arrayClass .int ∈ wWL := wIn 41 (by decide +kernel) (by decide +kernel)
theorem wArrJ : Cond.arrayClass .long ∈ wWL := wIn 70 (by decide +kernel) (by decide +kernel)
theorem wArrZ : Cond.arrayClass .boolean ∈ wWL := wIn 703 (by decide +kernel) (by decide +kernel)
theorem PM.at {X : wX} {M : wM} {d mc ms : Nat} {as : List Value} {h : wH} {Q : Option Value → wH → Prop} {pl : List (Option Value)} (hy : plainName M.1.cls = true) (hlen : Nat.ble (wen as).length M.2.2.1 = true) (hle : wle pl (wen as)) (k : WP X M (wR d mc ms) mc (wEm X mc ms Q) 0 0 0 pl [] h) : PM X M d mc ms as h Q := PM.of hy hlen (w_le hle k)
end
section
/-! sets, further: the list of a predicate's edges; an edge that comes; rising lists of keys -/
theorem eOdd_succ (n : Nat) : eOdd (n + 1) = !eOdd n := by
  unfold eOdd
  rcases Nat.mod_two_eq_zero_or_one n with z | z
  · rw [z, show (n + 1) % 2 = 1 by omega]
    rfl
  · rw [z, show (n + 1) % 2 = 0 by omega]
    rfl
def ePrev (P : Nat → Bool) : Nat → Bool
  | 0 => false
  | k + 1 => P k
/-- where P changes, below n -/
def eCh (P : Nat → Bool) : Nat → List Nat
  | 0 => []
  | n + 1 => if P n = ePrev P n then eCh P n else eCh P n ++ [n]
theorem eCh_lt (P : Nat → Bool) : ∀ (n x : Nat), x ∈ eCh P n → x < n
  | 0, x, h => by cases h
  | n + 1, x, h => by
    unfold eCh at h
    split at h
    · have := eCh_lt P n x h
      omega
    · rcases List.mem_append.mp h with h | h
      · have := eCh_lt P n x h
        omega
      · rw [List.mem_singleton] at h
        omega
theorem eCh_asc (P : Nat → Bool) : ∀ n, eAsc (eCh P n)
  | 0 => List.Pairwise.nil
  | n + 1 => by
    unfold eCh
    split
    · exact eCh_asc P n
    · refine eAsc_append.mpr ⟨eCh_asc P n, List.pairwise_singleton _ _, fun a ha b hb => ?_⟩
      rw [List.mem_singleton] at hb
      rw [hb]
      exact eCh_lt P n a ha
theorem eCh_mem (P : Nat → Bool) : ∀ n, (∀ c, c < n → eMem (eCh P n) c = P c) ∧ eOdd (eCh P n).length = ePrev P n
  | 0 => ⟨fun c h => by omega, rfl⟩
  | n + 1 => by
    obtain ⟨h1, h2⟩ := eCh_mem P n
    unfold eCh
    by_cases hp : P n = ePrev P n
    · rw [if_pos hp]
      refine ⟨fun c hc => ?_, ?_⟩
      · by_cases hcn : c < n
        · exact h1 c hcn
        · have hc2 : c = n := by omega
          subst hc2
          unfold eMem
          rw [eCnt_high (fun e he => Nat.le_of_lt (eCh_lt P c e he)), hp, ← h2]
          rfl
      · rw [h2, ← hp]
        rfl
    · rw [if_neg hp]
      have h3 : eOdd (eCh P n ++ [n]).length = P n := by
        rw [List.length_append, List.length_singleton, eOdd_succ, h2]
        cases hx : P n <;> cases hy : ePrev P n <;> simp_all
      refine ⟨fun c hc => ?_, h3⟩
      by_cases hcn : c < n
      · rw [eMem_snoc hcn]
        exact h1 c hcn
      · have hc2 : c = n := by omega
        subst hc2
        unfold eMem
        rw [eCnt_high (fun e he => ?_)]
        · exact h3
        · rcases List.mem_append.mp he with h | h
          · exact Nat.le_of_lt (eCh_lt P c e h)
          · rw [List.mem_singleton] at h
            omega
abbrev eALL : Nat := 1114112
/-- a set's edges: rising, none beyond the end -/
def eOk (E : List Nat) : Prop := eAsc E ∧ ∀ x ∈ E, x ≤ 1114112
theorem eMem_end {E : List Nat} (h : eOk E) {c : Nat} (hc : 1114112 ≤ c) : eMem E c = eOdd E.length := by
  unfold eMem
  rw [eCnt_high (fun e he => Nat.le_trans (h.2 e he) hc)]
  rfl
/-- two sets put together -/
def eCmb (how : Nat) (L R : List Nat) : List Nat := eCh (fun c => eDec how (eMem L c) (eMem R c)) 1114113
theorem eCmb_ok (how : Nat) (L R : List Nat) : eOk (eCmb how L R) := ⟨eCh_asc _ _, fun x hx => by have := eCh_lt _ _ x hx; omega⟩
theorem eCmb_mem {how : Nat} {L R : List Nat} (hL : eOk L) (hR : eOk R) (c : Nat) : eMem (eCmb how L R) c = eDec how (eMem L c) (eMem R c) := by
  obtain ⟨h1, h2⟩ := eCh_mem (fun c => eDec how (eMem L c) (eMem R c)) 1114113
  by_cases hc : c < 1114113
  · exact h1 c hc
  · rw [eMem_end (eCmb_ok how L R) (by omega)]
    show eOdd (eCh _ 1114113).length = _
    rw [h2]
    show eDec how (eMem L 1114112) (eMem R 1114112) = _
    rw [eMem_end hL (Nat.le_refl _), eMem_end hR (Nat.le_refl _), eMem_end hL (by omega), eMem_end hR (by omega)]
theorem eCmb_eq {how : Nat} {L R E : List Nat} (hL : eOk L) (hR : eOk R) (hE : eAsc E) (h : ∀ c, eMem E c = eDec how (eMem L c) (eMem R c)) : E = eCmb how L R :=
  eCanon E _ hE (eCmb_ok how L R).1 (fun c => by rw [h, eCmb_mem hL hR])
/-- an edge comes -/
theorem eTog_ok {E : List Nat} {x : Nat} (hE : eAsc E) (hx : ∀ y ∈ E, y ≤ x) : eAsc (eTog E x) ∧ (∀ y ∈ eTog E x, y ≤ x) ∧ ∀ c, eMem (eTog E x) c = (eMem E c != decide (x ≤ c)) := by
  unfold eTog
  by_cases h : E.getLast? = some x
  · rw [if_pos h]
    obtain ⟨l, hl⟩ : ∃ l, E = l ++ [x] := by
      rcases List.eq_nil_or_concat E with rfl | ⟨l, b, rfl⟩
      · simp at h
      · rw [List.concat_eq_append] at h ⊢
        rw [List.getLast?_concat] at h
        cases h
        exact ⟨l, rfl⟩
    subst hl
    rw [List.dropLast_concat]
    obtain ⟨h1, h2, h3⟩ := eAsc_append.mp hE
    refine ⟨h1, fun y hy => hx y (List.mem_append_left _ hy), fun c => ?_⟩
    unfold eMem
    rw [eCnt_append, eCnt_cons, eCnt_nil]
    by_cases hc : x ≤ c
    · rw [if_pos hc, decide_eq_true hc]
      rcases Nat.mod_two_eq_zero_or_one (eCnt l c) with z | z
      · rw [z, show (eCnt l c + (1 + 0)) % 2 = 1 by omega]
        rfl
      · rw [z, show (eCnt l c + (1 + 0)) % 2 = 0 by omega]
        rfl
    · rw [if_neg hc, decide_eq_false hc]
      simp
  · rw [if_neg h]
    have hlt : ∀ y ∈ E, y < x := by
      intro y hy
      rcases Nat.lt_or_ge y x with z | z
      · exact z
      · exfalso
        have hyx : y = x := by have := hx y hy; omega
        subst hyx
        rcases List.eq_nil_or_concat E with rfl | ⟨l, b, rfl⟩
        · cases hy
        · rw [List.concat_eq_append] at h hE hy hx
          rw [List.getLast?_concat] at h
          rcases List.mem_append.mp hy with hy | hy
          · have h4 := (eAsc_append.mp hE).2.2 y hy b (List.mem_singleton.mpr rfl)
            have := hx b (List.mem_append_right _ (List.mem_singleton.mpr rfl))
            omega
          · rw [List.mem_singleton] at hy
            exact h (by rw [hy])
    refine ⟨eAsc_append.mpr ⟨hE, List.pairwise_singleton _ _, fun a ha b hb => by rw [List.mem_singleton] at hb; rw [hb]; exact hlt a ha⟩, fun y hy => ?_, fun c => ?_⟩
    · rcases List.mem_append.mp hy with hy | hy
      · exact hx y hy
      · rw [List.mem_singleton] at hy
        omega
    · unfold eMem
      rw [eCnt_append, eCnt_cons, eCnt_nil]
      by_cases hc : x ≤ c
      · rw [if_pos hc, decide_eq_true hc]
        rcases Nat.mod_two_eq_zero_or_one (eCnt E c) with z | z
        · rw [z, show (eCnt E c + (1 + 0)) % 2 = 1 by omega]
          rfl
        · rw [z, show (eCnt E c + (1 + 0)) % 2 = 0 by omega]
          rfl
      · rw [if_neg hc, decide_eq_false hc]
        simp
theorem eTog_len (E : List Nat) (x : Nat) : (eTog E x).length ≤ E.length + 1 := by
  unfold eTog
  split
  · rw [List.length_dropLast]
    omega
  · rw [List.length_append, List.length_singleton]
    exact Nat.le_refl _
/-- behind what is below, an edge is laid -/
theorem eTog_new {E : List Nat} {x : Nat} (h : ∀ y ∈ E, y < x) : eTog E x = E ++ [x] := by
  unfold eTog
  rw [if_neg]
  intro z
  have := h x (List.mem_of_getLast? z)
  omega
theorem eInv_lt {how : Nat} {L R : List Nat} {i j i' j' x : Nat} {ins : Bool} {acc : List Nat} (hL : eAsc L) (hR : eAsc R) (inv : eInv how L R i j ins acc)
    (hi : (i' = i ∧ ∀ z, L[i]? = some z → x < z) ∨ (i' = i + 1 ∧ L[i]? = some x)) (hj : (j' = j ∧ ∀ z, R[j]? = some z → x < z) ∨ (j' = j + 1 ∧ R[j]? = some x)) (hne : i' ≠ i ∨ j' ≠ j) : ∀ a ∈ acc, a < x := by
  obtain ⟨q1, q2, q3, q4, q5, q6, q7, q8, q9, q10⟩ := inv
  intro a ha
  rcases q9 a ha with h | h
  · obtain ⟨k, h1, h2⟩ := eMem_take h
    rcases hi with ⟨e1, -⟩ | ⟨-, hx⟩
    · rcases hj with ⟨e2, -⟩ | ⟨-, hx⟩
      · rcases hne with h | h <;> contradiction
      · exact q7 k a j x h1 h2 (Nat.le_refl _) hx
    · exact eAsc_lt hL h1 h2 hx
  · obtain ⟨k, h1, h2⟩ := eMem_take h
    rcases hj with ⟨e1, -⟩ | ⟨-, hx⟩
    · rcases hi with ⟨e2, -⟩ | ⟨-, hx⟩
      · rcases hne with h | h <;> contradiction
      · exact q8 k a i x h1 h2 (Nat.le_refl _) hx
    · exact eAsc_lt hR h1 h2 hx
/-! keys -/
theorem sCanon : ∀ (S T : List Nat), eAsc S → eAsc T → (∀ k, k ∈ S ↔ k ∈ T) → S = T
  | [], [], _, _, _ => rfl
  | [], t :: T, _, _, h => by have := (h t).mpr List.mem_cons_self; cases this
  | s :: S, [], _, _, h => by have := (h s).mp List.mem_cons_self; cases this
  | s :: S, t :: T, hS, hT, h => by
    obtain ⟨hS1, hS2⟩ := eAsc_cons.mp hS
    obtain ⟨hT1, hT2⟩ := eAsc_cons.mp hT
    have hst : s = t := by
      rcases List.mem_cons.mp ((h s).mp List.mem_cons_self) with e | e
      · exact e
      · rcases List.mem_cons.mp ((h t).mpr List.mem_cons_self) with f | f
        · exact f.symm
        · have := hT1 s e
          have := hS1 t f
          omega
    subst hst
    congr 1
    refine sCanon S T hS2 hT2 (fun k => ⟨fun hk => ?_, fun hk => ?_⟩)
    · rcases List.mem_cons.mp ((h k).mp (List.mem_cons_of_mem _ hk)) with e | e
      · have := hS1 k hk
        omega
      · exact e
    · rcases List.mem_cons.mp ((h k).mpr (List.mem_cons_of_mem _ hk)) with e | e
      · have := hT1 k hk
        omega
      · exact e
def sIns (x : Nat) : List Nat → List Nat
  | [] => [x]
  | y :: r => if x < y then x :: y :: r else if x = y then y :: r else y :: sIns x r
theorem sIns_mem {x z : Nat} : ∀ {l : List Nat}, z ∈ sIns x l ↔ z = x ∨ z ∈ l
  | [] => by simp [sIns]
  | y :: r => by
    unfold sIns
    split
    · simp
    · split
      · rename_i h
        subst h
        simp
      · rw [List.mem_cons, sIns_mem, List.mem_cons]
        constructor
        · rintro (h | h | h)
          · exact Or.inr (Or.inl h)
          · exact Or.inl h
          · exact Or.inr (Or.inr h)
        · rintro (h | h | h)
          · exact Or.inr (Or.inl h)
          · exact Or.inl h
          · exact Or.inr (Or.inr h)
theorem sIns_asc {x : Nat} : ∀ {l : List Nat}, eAsc l → eAsc (sIns x l)
  | [], _ => List.pairwise_singleton _ _
  | y :: r, h => by
    obtain ⟨h1, h2⟩ := eAsc_cons.mp h
    unfold sIns
    split
    · rename_i hlt
      refine eAsc_cons.mpr ⟨fun z hz => ?_, h⟩
      rcases List.mem_cons.mp hz with rfl | hz
      · exact hlt
      · exact Nat.lt_trans hlt (h1 z hz)
    · split
      · exact h
      · refine eAsc_cons.mpr ⟨fun z hz => ?_, sIns_asc h2⟩
        rcases sIns_mem.mp hz with rfl | hz
        · omega
        · exact h1 z hz
def sCmb (how : Nat) (S T : List Nat) : List Nat := ((S ++ T).filter (fun k => eDec how (decide (k ∈ S)) (decide (k ∈ T)))).foldr sIns []
theorem sFold_mem {z : Nat} : ∀ {l : List Nat}, z ∈ l.foldr sIns [] ↔ z ∈ l
  | [] => Iff.rfl
  | x :: l => by rw [List.foldr_cons, sIns_mem, sFold_mem, List.mem_cons]
theorem sFold_asc : ∀ (l : List Nat), eAsc (l.foldr sIns [])
  | [] => List.Pairwise.nil
  | x :: l => sIns_asc (sFold_asc l)
theorem sCmb_asc (how : Nat) (S T : List Nat) : eAsc (sCmb how S T) := sFold_asc _
theorem sCmb_mem {how : Nat} {S T : List Nat} {k : Nat} : k ∈ sCmb how S T ↔ eDec how (decide (k ∈ S)) (decide (k ∈ T)) = true := by
  unfold sCmb
  rw [sFold_mem, List.mem_filter, List.mem_append]
  constructor
  · exact fun h => h.2
  · intro h
    refine ⟨?_, h⟩
    by_cases h1 : k ∈ S
    · exact Or.inl h1
    · by_cases h2 : k ∈ T
      · exact Or.inr h2
      · rw [decide_eq_false h1, decide_eq_false h2, eDec_ff] at h
        cases h
theorem sCmb_eq {how : Nat} {S T E : List Nat} (hE : eAsc E) (h : ∀ k, k ∈ E ↔ eDec how (decide (k ∈ S)) (decide (k ∈ T)) = true) : E = sCmb how S T :=
  sCanon E _ hE (sCmb_asc how S T) (fun k => by rw [h, sCmb_mem])
/-- where two rising lists of keys are merged -/
def sInv (how : Nat) (L R : List Nat) (i j : Nat) (acc : List Nat) : Prop :=
  i ≤ L.length ∧ j ≤ R.length ∧ eAsc acc ∧ acc.length ≤ i + j ∧
  (∀ a y b z, a < i → L[a]? = some y → j ≤ b → R[b]? = some z → y < z) ∧ (∀ a y b z, a < j → R[a]? = some y → i ≤ b → L[b]? = some z → y < z) ∧
  ∀ k, k ∈ acc ↔ eDec how (decide (k ∈ L.take i)) (decide (k ∈ R.take j)) = true
theorem sInv_0 (how : Nat) (L R : List Nat) : sInv how L R 0 0 [] := by
  refine ⟨Nat.zero_le _, Nat.zero_le _, List.Pairwise.nil, Nat.le_refl _, fun a y b z h => (by omega), fun a y b z h => (by omega), fun k => ?_⟩
  rw [List.take_zero, List.take_zero]
  simp [eDec_ff]
theorem sInv_step {how : Nat} {L R : List Nat} {i j i' j' x : Nat} {acc : List Nat} (hL : eAsc L) (hR : eAsc R) (inv : sInv how L R i j acc)
    (hi : (i' = i ∧ ∀ z, L[i]? = some z → x < z) ∨ (i' = i + 1 ∧ L[i]? = some x)) (hj : (j' = j ∧ ∀ z, R[j]? = some z → x < z) ∨ (j' = j + 1 ∧ R[j]? = some x)) (hne : i' ≠ i ∨ j' ≠ j) :
    sInv how L R i' j' (if eDec how (decide (i' ≠ i)) (decide (j' ≠ j)) = true then acc ++ [x] else acc) := by
  obtain ⟨q1, q2, q3, q6, q7, q8, q10⟩ := inv
  have hi1 : i' ≤ L.length := by
    rcases hi with ⟨rfl, -⟩ | ⟨rfl, hx⟩
    · exact q1
    · exact (List.getElem?_eq_some_iff.mp hx).1
  have hj1 : j' ≤ R.length := by
    rcases hj with ⟨rfl, -⟩ | ⟨rfl, hx⟩
    · exact q2
    · exact (List.getElem?_eq_some_iff.mp hx).1
  have bL : ∀ a y, a < i → L[a]? = some y → y < x := by
    intro a y ha hy
    rcases hi with ⟨e1, hmin⟩ | ⟨rfl, hx⟩
    · rcases hj with ⟨e2, -⟩ | ⟨rfl, hx⟩
      · rcases hne with h | h <;> contradiction
      · exact q7 a y j x ha hy (Nat.le_refl _) hx
    · exact eAsc_lt hL ha hy hx
  have bR : ∀ a y, a < j → R[a]? = some y → y < x := by
    intro a y ha hy
    rcases hj with ⟨e1, hmin⟩ | ⟨rfl, hx⟩
    · rcases hi with ⟨e2, -⟩ | ⟨rfl, hx⟩
      · rcases hne with h | h <;> contradiction
      · exact q8 a y i x ha hy (Nat.le_refl _) hx
    · exact eAsc_lt hR ha hy hx
  have bL' : ∀ a y, a < i' → L[a]? = some y → y ≤ x := by
    intro a y ha hy
    rcases hi with ⟨rfl, -⟩ | ⟨rfl, hx⟩
    · exact Nat.le_of_lt (bL a y ha hy)
    · by_cases hai : a = i
      · subst hai
        rw [hx] at hy
        cases hy
        exact Nat.le_refl _
      · exact Nat.le_of_lt (bL a y (by omega) hy)
  have bR' : ∀ a y, a < j' → R[a]? = some y → y ≤ x := by
    intro a y ha hy
    rcases hj with ⟨rfl, -⟩ | ⟨rfl, hx⟩
    · exact Nat.le_of_lt (bR a y ha hy)
    · by_cases hai : a = j
      · subst hai
        rw [hx] at hy
        cases hy
        exact Nat.le_refl _
      · exact Nat.le_of_lt (bR a y (by omega) hy)
  have aL : ∀ b z, i' ≤ b → L[b]? = some z → x < z := by
    intro b z hb hz
    rcases hi with ⟨rfl, hmin⟩ | ⟨rfl, hx⟩
    · by_cases hbi : b = i'
      · subst hbi
        exact hmin z hz
      · obtain ⟨h1, -⟩ := List.getElem?_eq_some_iff.mp hz
        have hlt : i' < L.length := by omega
        have h2 := hmin _ (List.getElem?_eq_getElem hlt)
        exact Nat.lt_trans h2 (eAsc_lt hL (by omega) (List.getElem?_eq_getElem hlt) hz)
    · exact eAsc_lt hL (by omega) hx hz
  have aR : ∀ b z, j' ≤ b → R[b]? = some z → x < z := by
    intro b z hb hz
    rcases hj with ⟨rfl, hmin⟩ | ⟨rfl, hx⟩
    · by_cases hbi : b = j'
      · subst hbi
        exact hmin z hz
      · obtain ⟨h1, -⟩ := List.getElem?_eq_some_iff.mp hz
        have hlt : j' < R.length := by omega
        have h2 := hmin _ (List.getElem?_eq_getElem hlt)
        exact Nat.lt_trans h2 (eAsc_lt hR (by omega) (List.getElem?_eq_getElem hlt) hz)
    · exact eAsc_lt hR (by omega) hx hz
  have tL : ∀ a ∈ L.take i, a < x := fun a ha => by obtain ⟨k, h1, h2⟩ := eMem_take ha; exact bL k a h1 h2
  have tR : ∀ a ∈ R.take j, a < x := fun a ha => by obtain ⟨k, h1, h2⟩ := eMem_take ha; exact bR k a h1 h2
  have accLt : ∀ a ∈ acc, a < x := by
    intro a ha
    have h := (q10 a).mp ha
    by_cases h1 : a ∈ L.take i
    · exact tL a h1
    · by_cases h2 : a ∈ R.take j
      · exact tR a h2
      · rw [decide_eq_false h1, decide_eq_false h2, eDec_ff] at h
        cases h
  have hcnt : i + j + 1 ≤ i' + j' := by
    rcases hi with ⟨rfl, -⟩ | ⟨rfl, -⟩ <;> rcases hj with ⟨rfl, -⟩ | ⟨rfl, -⟩
    · rcases hne with h | h <;> contradiction
    · omega
    · omega
    · omega
  -- membership in the longer beginnings
  have mL : ∀ k, decide (k ∈ L.take i') = (decide (k ∈ L.take i) || (decide (k = x) && decide (i' ≠ i))) := by
    intro k
    rcases hi with ⟨rfl, -⟩ | ⟨rfl, hx⟩
    · simp
    · rw [eTake_succ hx]
      simp [List.mem_append]
  have mR : ∀ k, decide (k ∈ R.take j') = (decide (k ∈ R.take j) || (decide (k = x) && decide (j' ≠ j))) := by
    intro k
    rcases hj with ⟨rfl, -⟩ | ⟨rfl, hx⟩
    · simp
    · rw [eTake_succ hx]
      simp [List.mem_append]
  have key : ∀ k, eDec how (decide (k ∈ L.take i')) (decide (k ∈ R.take j')) = true ↔ (k ∈ acc ∨ (k = x ∧ eDec how (decide (i' ≠ i)) (decide (j' ≠ j)) = true)) := by
    intro k
    rw [mL k, mR k]
    by_cases hk : k = x
    · subst hk
      have n1 : k ∉ L.take i := fun z => Nat.lt_irrefl _ (tL k z)
      have n2 : k ∉ R.take j := fun z => Nat.lt_irrefl _ (tR k z)
      have n3 : k ∉ acc := fun z => Nat.lt_irrefl _ (accLt k z)
      rw [decide_eq_false n1, decide_eq_false n2, decide_eq_true (rfl : k = k)]
      simp only [Bool.false_or, Bool.true_and]
      exact ⟨fun z => Or.inr ⟨by first | exact rfl | trivial, z⟩, fun z => z.elim (fun z => absurd z n3) (fun z => z.2)⟩
    · rw [decide_eq_false hk]
      simp only [Bool.false_and, Bool.or_false]
      rw [← q10 k]
      exact ⟨fun z => Or.inl z, fun z => z.elim id (fun z => absurd z.1 hk)⟩
  refine ⟨hi1, hj1, ?_, ?_, fun a y b z ha hy hb hz => Nat.lt_of_le_of_lt (bL' a y ha hy) (aR b z hb hz), fun a y b z ha hy hb hz => Nat.lt_of_le_of_lt (bR' a y ha hy) (aL b z hb hz), fun k => ?_⟩
  · split
    · refine eAsc_append.mpr ⟨q3, List.pairwise_singleton _ _, fun a ha b hb => ?_⟩
      rw [List.mem_singleton] at hb
      rw [hb]
      exact accLt a ha
    · exact q3
  · split
    · rw [List.length_append, List.length_singleton]
      omega
    · omega
  · rw [key k]
    split
    · rename_i hd
      rw [List.mem_append, List.mem_singleton]
      exact ⟨fun z => z.elim Or.inl (fun z => Or.inr ⟨z, hd⟩), fun z => z.elim Or.inl (fun z => Or.inr z.1)⟩
    · rename_i hd
      exact ⟨fun z => Or.inl z, fun z => z.elim id (fun z => absurd z.2 hd)⟩
theorem sInv_end {how : Nat} {L R : List Nat} {acc : List Nat} (inv : sInv how L R L.length R.length acc) : acc = sCmb how L R := by
  obtain ⟨q1, q2, q3, q6, q7, q8, q10⟩ := inv
  rw [List.take_length, List.take_length] at q10
  exact sCmb_eq q3 q10
theorem w_eq {X : wX} {M : wM} {R : Room} {B : Nat} {E : wN} {nc u nc' u' pc : Nat} {pl : List (Option Value)} {st st' : List Value} {h : wH} (e : (nc, u, st) = (nc', u', st')) (k : WP X M R B E nc' u' pc pl st' h) : WP X M R B E nc u pc pl st h := by
  cases e
  exact k
end
section
/-! bits of longs: pasted from the kit's laws/BITS.to-paste (families wb_, g_, pf_) -/
theorem wb_tb (n : Nat) : (lN n).toBitVec = BitVec.ofNat 64 n := rfl
theorem wb_inj {a b : Int64} (h : a.toBitVec = b.toBitVec) : a = b := Int64.toBitVec_inj.mp h
theorem wb_tn {n : Nat} (h : n < 2 ^ 64) : (lN n).toBitVec.toNat = n := by rw [wb_tb, BitVec.toNat_ofNat, Nat.mod_eq_of_lt h]
theorem wb_of (x : Int64) : ∃ n, n < 2 ^ 64 ∧ x = lN n := ⟨x.toBitVec.toNat, x.toBitVec.isLt, wb_inj (by rw [wb_tb]; simp)⟩
theorem wb_of32 (x : Int32) : ∃ n, n < 2 ^ 32 ∧ x = nI n := ⟨x.toBitVec.toNat, x.toBitVec.isLt, Int32.toBitVec_inj.mp (by show _ = BitVec.ofNat 32 _; simp)⟩
theorem wb_c : ∀ k, k < 64 → ((nI k).toInt64 &&& 63) = lN k := by decide +kernel
theorem wb_cu : ∀ k, k < 64 → ((nI k).toInt64.toUInt64 &&& Int64.toUInt64 63) = UInt64.ofNat k := by decide +kernel
theorem wb_sm : ∀ k, k < 64 → (BitVec.ofNat 64 k).smod 64 = BitVec.ofNat 64 k := by decide +kernel
theorem wb_pw {a b : Nat} (h : a ≤ b) : 2 ^ b = 2 ^ a * 2 ^ (b - a) := by rw [← Nat.pow_add]; congr 1; omega
theorem wb_lt2 {a b : Nat} (h : a < b) : 2 ^ a < 2 ^ b := Nat.pow_lt_pow_right (by decide) h
theorem wb_mod (n : Nat) : lN n = lN (n % 2 ^ 64) := wb_inj (by rw [wb_tb, wb_tb]; apply BitVec.eq_of_toNat_eq; rw [BitVec.toNat_ofNat, BitVec.toNat_ofNat, Nat.mod_mod])
theorem wb_shr {n k : Nat} (hn : n < 2 ^ 64) (hk : k < 64) : ((lN n).toUInt64 >>> ((nI k).toInt64.toUInt64 &&& Int64.toUInt64 63)).toInt64 = lN (n / 2 ^ k) := by
  rw [wb_cu k hk]
  apply wb_inj
  apply BitVec.eq_of_toNat_eq
  show ((lN n).toUInt64 >>> UInt64.ofNat k).toNat = (BitVec.ofNat 64 _).toNat
  have h1 : (UInt64.ofNat k).toNat = k := by
    show (BitVec.ofNat 64 k).toNat = k
    rw [BitVec.toNat_ofNat, Nat.mod_eq_of_lt (by omega)]
  have h2 : (lN n).toUInt64.toNat = n := wb_tn hn
  rw [UInt64.toNat_shiftRight, h1, h2, Nat.mod_eq_of_lt hk, Nat.shiftRight_eq_div_pow, BitVec.toNat_ofNat, Nat.mod_eq_of_lt (Nat.lt_of_le_of_lt (Nat.div_le_self _ _) hn)]
theorem wb_shl (n : Nat) {k : Nat} (hk : k < 64) : lN n <<< ((nI k).toInt64 &&& 63) = lN (n * 2 ^ k) := by
  rw [wb_c k hk]
  apply wb_inj
  rw [Int64.toBitVec_shiftLeft, wb_tb, wb_tb, wb_tb, wb_sm k hk]
  apply BitVec.eq_of_toNat_eq
  rw [BitVec.shiftLeft_eq', BitVec.toNat_shiftLeft, BitVec.toNat_ofNat, BitVec.toNat_ofNat, BitVec.toNat_ofNat, Nat.mod_eq_of_lt (show k < 2 ^ 64 by omega), Nat.shiftLeft_eq, Nat.mul_mod, Nat.mod_mod, ← Nat.mul_mod]
theorem wb_and {a b : Nat} (ha : a < 2 ^ 64) (hb : b < 2 ^ 64) : lN a &&& lN b = lN (a &&& b) := by
  apply wb_inj
  rw [Int64.toBitVec_and, wb_tb, wb_tb, wb_tb]
  apply BitVec.eq_of_toNat_eq
  rw [BitVec.toNat_and, BitVec.toNat_ofNat, BitVec.toNat_ofNat, BitVec.toNat_ofNat, Nat.mod_eq_of_lt ha, Nat.mod_eq_of_lt hb, Nat.mod_eq_of_lt (Nat.and_lt_two_pow _ hb)]
theorem wb_or {a b : Nat} (ha : a < 2 ^ 64) (hb : b < 2 ^ 64) : lN a ||| lN b = lN (a ||| b) := by
  apply wb_inj
  rw [Int64.toBitVec_or, wb_tb, wb_tb, wb_tb]
  apply BitVec.eq_of_toNat_eq
  rw [BitVec.toNat_or, BitVec.toNat_ofNat, BitVec.toNat_ofNat, BitVec.toNat_ofNat, Nat.mod_eq_of_lt ha, Nat.mod_eq_of_lt hb, Nat.mod_eq_of_lt (Nat.or_lt_two_pow ha hb)]
theorem wb_mask {n k : Nat} (hn : n < 2 ^ 64) (hk : k < 64) : lN n &&& lN (2 ^ k - 1) = lN (n % 2 ^ k) := by
  rw [wb_and hn (by have := wb_lt2 hk; omega), Nat.and_two_pow_sub_one_eq_mod]
theorem wb_a1 {n : Nat} (hn : n < 2 ^ 64) : lN n &&& 1 = lN (n % 2) := wb_mask (k := 1) hn (by decide)
theorem wb_bit {n k : Nat} (hn : n < 2 ^ 64) (hk : k < 64) : ((lN n).toUInt64 >>> ((nI k).toInt64.toUInt64 &&& Int64.toUInt64 63)).toInt64 &&& 1 = lN (n / 2 ^ k % 2) := by
  rw [wb_shr hn hk, wb_a1 (Nat.lt_of_le_of_lt (Nat.div_le_self _ _) hn)]
theorem wb_xor {q k : Nat} (hk : k < 63) (h : 2 ^ k ≤ q) (h2 : q < 2 ^ (k + 1)) : lN q ^^^ lN (2 ^ k) = lN (q - 2 ^ k) := by
  obtain ⟨r, rfl⟩ : ∃ r, q = 2 ^ k + r := ⟨q - 2 ^ k, by omega⟩
  have hr : r < 2 ^ k := by rw [Nat.pow_succ] at h2; omega
  have hx : (2 ^ k + r) ^^^ 2 ^ k = r := by
    apply Nat.eq_of_testBit_eq
    intro i
    rw [Nat.testBit_xor, Nat.testBit_two_pow]
    rcases Nat.lt_trichotomy i k with h | h | h
    · rw [Nat.testBit_two_pow_add_gt h]
      simp [show ¬ k = i by omega]
    · subst h
      rw [Nat.testBit_two_pow_add_eq]
      simp
    · have a1 : 2 ^ (k + 1) ≤ 2 ^ i := Nat.pow_le_pow_right (by decide) h
      rw [Nat.testBit_lt_two_pow (show 2 ^ k + r < 2 ^ i by omega), Nat.testBit_lt_two_pow (show r < 2 ^ i by omega)]
      simp [show ¬ k = i by omega]
  have b1 := wb_lt2 (show k + 1 < 64 by omega)
  have b2 := wb_lt2 (show k < 64 by omega)
  apply wb_inj
  rw [Int64.toBitVec_xor, wb_tb, wb_tb, wb_tb]
  apply BitVec.eq_of_toNat_eq
  rw [BitVec.toNat_xor, BitVec.toNat_ofNat, BitVec.toNat_ofNat, BitVec.toNat_ofNat, Nat.mod_eq_of_lt (by omega : 2 ^ k + r < 2 ^ 64), Nat.mod_eq_of_lt b2, hx, Nat.add_sub_cancel_left, Nat.mod_eq_of_lt (by omega)]
/-! ===== lN: masks, 'or' of parts that don't overlap is a sum ===== -/
theorem u_tn {n : Nat} (h : n < 2 ^ 64) : (UInt64.ofNat n).toNat = n := Nat.mod_eq_of_lt h
theorem g_and {a b c : Nat} (ha : a < 2 ^ 64) (hb : b < 2 ^ 64) (hc : a &&& b = c) : lN a &&& lN b = lN c := by
  subst hc
  have h : UInt64.ofNat a &&& UInt64.ofNat b = UInt64.ofNat (a &&& b) := UInt64.toNat_inj.mp (by rw [UInt64.toNat_and, u_tn ha, u_tn hb, u_tn (Nat.and_lt_two_pow a hb)])
  have h2 := congrArg UInt64.toInt64 h
  exact h2
theorem g_and1 {a : Nat} (ha : a < 2 ^ 64) : lN a &&& 1 = lN (a % 2) := g_and (b := 1) ha (by decide) (Nat.and_two_pow_sub_one_eq_mod a 1)
theorem g_mask {a s p : Nat} (hp : 2 ^ s = p) (hs : s < 64) (ha : a < 2 ^ 64) : lN a &&& lN (p - 1) = lN (a % p) := by
  subst hp
  have := Nat.pow_lt_pow_right (show 1 < 2 by decide) hs
  exact g_and ha (by omega) (Nat.and_two_pow_sub_one_eq_mod a s)
theorem g_or {k p a b : Nat} (hp : 2 ^ k = p) (ha : a < p) (h : b * p + a < 2 ^ 64) : lN (b * p) ||| lN a = lN (b * p + a) := by
  subst hp
  have h1 : b * 2 ^ k ||| a = b * 2 ^ k + a := by rw [← Nat.shiftLeft_eq, Nat.shiftLeft_add_eq_or_of_lt ha]
  have h3 : UInt64.ofNat (b * 2 ^ k) ||| UInt64.ofNat a = UInt64.ofNat (b * 2 ^ k + a) := UInt64.toNat_inj.mp (by rw [UInt64.toNat_or, u_tn (by omega), u_tn (by omega), u_tn h, h1])
  have h2 := congrArg UInt64.toInt64 h3
  exact h2
theorem g_or' {k p a b : Nat} (hp : 2 ^ k = p) (ha : a < p) (h : a + b * p < 2 ^ 64) : lN a ||| lN (b * p) = lN (a + b * p) := by
  rw [Int64.or_comm, g_or hp ha (by omega), Nat.add_comm]
theorem g_ushr {a k p : Nat} {y : UInt64} (hy : y = UInt64.ofNat k) (hk : k < 64) (hp : 2 ^ k = p) (ha : a < 2 ^ 64) : ((lN a).toUInt64 >>> y).toInt64 = lN (a / p) := by
  subst hy hp
  have h : UInt64.ofNat a >>> UInt64.ofNat k = UInt64.ofNat (a / 2 ^ k) := UInt64.toNat_inj.mp (by rw [UInt64.toNat_shiftRight, u_tn ha, u_tn (by omega), u_tn (Nat.lt_of_le_of_lt (Nat.div_le_self _ _) ha), Nat.mod_eq_of_lt hk, Nat.shiftRight_eq_div_pow])
  have h2 := congrArg UInt64.toInt64 h
  exact h2
theorem g_shl {a k p : Nat} {y : Int64} (hy : y.toBitVec.smod 64 = BitVec.ofNat 64 k) (hk : k < 64) (hp : 2 ^ k = p) (ha : a < 2 ^ 64) : lN a <<< y = lN (a * p) := by
  subst hp
  apply Int64.toBitVec_inj.mp
  rw [Int64.toBitVec_shiftLeft, hy]
  apply BitVec.eq_of_toNat_eq
  have hb : (lN a).toBitVec.toNat = a := Nat.mod_eq_of_lt ha
  have hk' : (BitVec.ofNat 64 k).toNat = k := Nat.mod_eq_of_lt (by omega)
  have h : ((lN a).toBitVec <<< BitVec.ofNat 64 k).toNat = (a * 2 ^ k) % 2 ^ 64 := by simp only [BitVec.shiftLeft_eq', BitVec.toNat_shiftLeft, hb, hk', Nat.shiftLeft_eq]
  exact h
/-! ===== lN to 2^62 under >> and >>> ===== -/
theorem pf_lI {a : Nat} (h : a < 2 ^ 63) : (lN a).toInt = (a : Int) := lg_ofNat_toInt h
theorem pf_shr {a d : Nat} {D : Int64} (hD : (D.toBitVec.smod 64).toNat = d) (h : a < 2 ^ 62) : lN a >>> D = lN (a / 2 ^ d) := by
  have hd : a / 2 ^ d ≤ a := Nat.div_le_self _ _
  apply Int64.toInt_inj.mp
  have e : (lN a >>> D).toInt = (lN a).toInt >>> d := by
    rw [← hD]
    exact BitVec.toInt_sshiftRight ..
  rw [e, Int.shiftRight_eq_div_pow, pf_lI (by omega), pf_lI (by omega)]
  rfl
theorem pf_ushr {a d : Nat} {D : UInt64} (hD : D.toNat % 64 = d) (h : a < 2 ^ 62) : ((lN a).toUInt64 >>> D).toInt64 = lN (a / 2 ^ d) := by
  have hd : a / 2 ^ d ≤ a := Nat.div_le_self _ _
  have e : (lN a).toUInt64 >>> D = UInt64.ofNat (a / 2 ^ d) := UInt64.toNat_inj.mp (by
    rw [UInt64.toNat_shiftRight, hD, Nat.shiftRight_eq_div_pow, UInt64.toNat_ofNat']
    show (UInt64.ofNat a).toNat / 2 ^ d = _
    rw [UInt64.toNat_ofNat', Nat.mod_eq_of_lt (by omega), Nat.mod_eq_of_lt (by omega)])
  rw [e]
  rfl
theorem pf_andw (x : Int64) : ∃ m, m < 2 ^ 32 ∧ x &&& 4294967295 = lN m := ⟨x.toBitVec.toNat % 2 ^ 32, Nat.mod_lt _ (by decide), Int64.toBitVec_inj.mp (BitVec.eq_of_toNat_eq (by
  show (x.toBitVec &&& 4294967295#64).toNat = (BitVec.ofNat 64 (x.toBitVec.toNat % 2 ^ 32)).toNat
  rw [BitVec.toNat_and, show (4294967295#64).toNat = 2 ^ 32 - 1 from by decide, Nat.and_two_pow_sub_one_eq_mod, BitVec.toNat_ofNat]
  omega))⟩
/-! ===== Int64 as an unsigned number: uN x ===== -/
/-! own -/
theorem kshr {a d : Nat} {D : Int64} (hD : (D.toBitVec.smod 64).toNat = d) (h : a < 2 ^ 63) : lN a >>> D = lN (a / 2 ^ d) := by
  have hd : a / 2 ^ d ≤ a := Nat.div_le_self _ _
  apply Int64.toInt_inj.mp
  have e : (lN a >>> D).toInt = (lN a).toInt >>> d := by
    rw [← hD]
    exact BitVec.toInt_sshiftRight ..
  rw [e, Int.shiftRight_eq_div_pow, pf_lI (by omega), pf_lI (by omega)]
  rfl
/-- the key of a string of two (t = 0) or three code points (t - 1 the third) -/
def kOf (a b t : Nat) : Nat := (a + 1) * 4398046511104 + (b + 1) * 2097152 + t
theorem kOf_lt {a b t : Nat} (ha : a < 1114112) (hb : b < 1114112) (ht : t ≤ 1114112) : kOf a b t < 9223372036854775807 := by
  unfold kOf
  omega
theorem kOr {A B t : Nat} (hA : A ≤ 1114112) (hB : B ≤ 1114112) (ht : t ≤ 1114112) : (lN (A * 2 ^ 42) ||| lN (B * 2 ^ 21)) ||| lN t = lN (A * 4398046511104 + B * 2097152 + t) := by
  rw [g_or (k := 42) (p := 2 ^ 42) rfl (by omega) (by omega)]
  rw [show A * 2 ^ 42 + B * 2 ^ 21 = (A * 2 ^ 21 + B) * 2 ^ 21 by omega]
  rw [g_or (k := 21) (p := 2 ^ 21) rfl (by omega) (by omega)]
theorem kMask {n : Nat} (h : n < 2 ^ 64) : lN n &&& lN 2097151 = lN (n % 2097152) := wb_mask (k := 21) h (by decide)
end
section
/-! methods of CR: written by wip/gen/mknames.py -/
def M_CR_init : wM := (⟨"CodePointSets$CodeRow", "<init>", "()V"⟩, prog_3_method_1_code, 1, none)
theorem yM_CR_init : wCy M_CR_init 0 := ⟨wIn 28 rfl (by decide +kernel), wIn 2 (by decide +kernel) (by decide +kernel), by decide +kernel, by decide +kernel, by decide +kernel, by decide +kernel⟩
theorem iM_CR_init : Cond.instanceMethod M_CR_init.1 ∈ wWL := wIn 27 (by decide +kernel) (by decide +kernel)
def M_CR_append : wM := (⟨"CodePointSets$CodeRow", "append", "(I)Z"⟩, prog_3_method_2_code, 2, (some (.boolean)))
theorem yM_CR_append : wCy M_CR_append 1 := ⟨wIn 207 rfl (by decide +kernel), wIn 2 (by decide +kernel) (by decide +kernel), by decide +kernel, by decide +kernel, by decide +kernel, by decide +kernel⟩
theorem vM_CR_append : wCv M_CR_append := ⟨wIn 205 (by decide +kernel) (by decide +kernel), wIn 206 (by decide +kernel) (by decide +kernel)⟩
def M_CR_clear : wM := (⟨"CodePointSets$CodeRow", "clear", "()V"⟩, prog_3_method_3_code, 1, none)
theorem yM_CR_clear : wCy M_CR_clear 0 := ⟨wIn 215 rfl (by decide +kernel), wIn 2 (by decide +kernel) (by decide +kernel), by decide +kernel, by decide +kernel, by decide +kernel, by decide +kernel⟩
theorem vM_CR_clear : wCv M_CR_clear := ⟨wIn 213 (by decide +kernel) (by decide +kernel), wIn 214 (by decide +kernel) (by decide +kernel)⟩
def M_CR_codeAt : wM := (⟨"CodePointSets$CodeRow", "codeAt", "(I)I"⟩, prog_3_method_4_code, 2, (some (.int)))
theorem yM_CR_codeAt : wCy M_CR_codeAt 1 := ⟨wIn 227 rfl (by decide +kernel), wIn 2 (by decide +kernel) (by decide +kernel), by decide +kernel, by decide +kernel, by decide +kernel, by decide +kernel⟩
theorem vM_CR_codeAt : wCv M_CR_codeAt := ⟨wIn 225 (by decide +kernel) (by decide +kernel), wIn 226 (by decide +kernel) (by decide +kernel)⟩
def M_CR_become : wM := (⟨"CodePointSets$CodeRow", "become", "(LCodePointSets$CodeRow;)V"⟩, prog_3_method_5_code, 2, none)
theorem yM_CR_become : wCy M_CR_become 1 := ⟨wIn 243 rfl (by decide +kernel), wIn 2 (by decide +kernel) (by decide +kernel), by decide +kernel, by decide +kernel, by decide +kernel, by decide +kernel⟩
theorem vM_CR_become : wCv M_CR_become := ⟨wIn 241 (by decide +kernel) (by decide +kernel), wIn 242 (by decide +kernel) (by decide +kernel)⟩
/-! links of the pools of CR: written by wip/gen/mknames.py -/
theorem o_CR_3 : Cond.methodLink "CodePointSets$CodeRow" 3 Lib.objectInit ∈ wWL := wIn 29 (by decide +kernel) (by decide +kernel)
theorem f_CR_9 : wF "CodePointSets$CodeRow" 9 0 0 := ⟨("CodePointSets$CodeRow", wT_CR, 2), rfl, by decide, Or.inl (wIn 30 (by decide +kernel) (by decide +kernel))⟩
theorem f_CR_15 : wF "CodePointSets$CodeRow" 15 0 1 := ⟨("CodePointSets$CodeRow", wT_CR, 2), rfl, by decide, Or.inl (wIn 32 (by decide +kernel) (by decide +kernel))⟩
theorem a_CR_19 : Cond.methodLink "CodePointSets$CodeRow" 19 arraycopyName ∈ wWL := wIn 244 (by decide +kernel) (by decide +kernel)
end
section
/-! decode rows of CR: written by wip/gen/mknames.py -/
theorem d_CR_init_0 : decode M_CR_init.2.1 0 = .ok (.aload_n 0, 1) := by decide +kernel
theorem d_CR_init_1 : decode M_CR_init.2.1 1 = .ok (.invokespecial 3, 3) := by decide +kernel
theorem d_CR_init_4 : decode M_CR_init.2.1 4 = .ok (.aload_n 0, 1) := by decide +kernel
theorem d_CR_init_5 : decode M_CR_init.2.1 5 = .ok (.bipush 60, 2) := by decide +kernel
theorem d_CR_init_7 : decode M_CR_init.2.1 7 = .ok (.newarray .int, 2) := by decide +kernel
theorem d_CR_init_9 : decode M_CR_init.2.1 9 = .ok (.putfield 9, 3) := by decide +kernel
theorem d_CR_init_12 : decode M_CR_init.2.1 12 = .ok (.return_, 1) := by decide +kernel
theorem d_CR_append_0 : decode M_CR_append.2.1 0 = .ok (.aload_n 0, 1) := by decide +kernel
theorem d_CR_append_1 : decode M_CR_append.2.1 1 = .ok (.getfield 15, 3) := by decide +kernel
theorem d_CR_append_4 : decode M_CR_append.2.1 4 = .ok (.bipush 60, 2) := by decide +kernel
theorem d_CR_append_6 : decode M_CR_append.2.1 6 = .ok (.if_icmp .lt 5, 3) := by decide +kernel
theorem d_CR_append_9 : decode M_CR_append.2.1 9 = .ok (.iconst 0, 1) := by decide +kernel
theorem d_CR_append_10 : decode M_CR_append.2.1 10 = .ok (.ireturn, 1) := by decide +kernel
theorem d_CR_append_11 : decode M_CR_append.2.1 11 = .ok (.aload_n 0, 1) := by decide +kernel
theorem d_CR_append_12 : decode M_CR_append.2.1 12 = .ok (.getfield 9, 3) := by decide +kernel
theorem d_CR_append_15 : decode M_CR_append.2.1 15 = .ok (.aload_n 0, 1) := by decide +kernel
theorem d_CR_append_16 : decode M_CR_append.2.1 16 = .ok (.getfield 15, 3) := by decide +kernel
theorem d_CR_append_19 : decode M_CR_append.2.1 19 = .ok (.iload_n 1, 1) := by decide +kernel
theorem d_CR_append_20 : decode M_CR_append.2.1 20 = .ok (.iastore, 1) := by decide +kernel
theorem d_CR_append_21 : decode M_CR_append.2.1 21 = .ok (.aload_n 0, 1) := by decide +kernel
theorem d_CR_append_22 : decode M_CR_append.2.1 22 = .ok (.dup, 1) := by decide +kernel
theorem d_CR_append_23 : decode M_CR_append.2.1 23 = .ok (.getfield 15, 3) := by decide +kernel
theorem d_CR_append_26 : decode M_CR_append.2.1 26 = .ok (.iconst 1, 1) := by decide +kernel
theorem d_CR_append_27 : decode M_CR_append.2.1 27 = .ok (.iadd, 1) := by decide +kernel
theorem d_CR_append_28 : decode M_CR_append.2.1 28 = .ok (.putfield 15, 3) := by decide +kernel
theorem d_CR_append_31 : decode M_CR_append.2.1 31 = .ok (.iconst 1, 1) := by decide +kernel
theorem d_CR_append_32 : decode M_CR_append.2.1 32 = .ok (.ireturn, 1) := by decide +kernel
theorem d_CR_clear_0 : decode M_CR_clear.2.1 0 = .ok (.aload_n 0, 1) := by decide +kernel
theorem d_CR_clear_1 : decode M_CR_clear.2.1 1 = .ok (.iconst 0, 1) := by decide +kernel
theorem d_CR_clear_2 : decode M_CR_clear.2.1 2 = .ok (.putfield 15, 3) := by decide +kernel
theorem d_CR_clear_5 : decode M_CR_clear.2.1 5 = .ok (.return_, 1) := by decide +kernel
theorem d_CR_codeAt_0 : decode M_CR_codeAt.2.1 0 = .ok (.iload_n 1, 1) := by decide +kernel
theorem d_CR_codeAt_1 : decode M_CR_codeAt.2.1 1 = .ok (.ifCond .lt 20, 3) := by decide +kernel
theorem d_CR_codeAt_4 : decode M_CR_codeAt.2.1 4 = .ok (.iload_n 1, 1) := by decide +kernel
theorem d_CR_codeAt_5 : decode M_CR_codeAt.2.1 5 = .ok (.aload_n 0, 1) := by decide +kernel
theorem d_CR_codeAt_6 : decode M_CR_codeAt.2.1 6 = .ok (.getfield 15, 3) := by decide +kernel
theorem d_CR_codeAt_9 : decode M_CR_codeAt.2.1 9 = .ok (.if_icmp .ge 12, 3) := by decide +kernel
theorem d_CR_codeAt_12 : decode M_CR_codeAt.2.1 12 = .ok (.aload_n 0, 1) := by decide +kernel
theorem d_CR_codeAt_13 : decode M_CR_codeAt.2.1 13 = .ok (.getfield 9, 3) := by decide +kernel
theorem d_CR_codeAt_16 : decode M_CR_codeAt.2.1 16 = .ok (.iload_n 1, 1) := by decide +kernel
theorem d_CR_codeAt_17 : decode M_CR_codeAt.2.1 17 = .ok (.iaload, 1) := by decide +kernel
theorem d_CR_codeAt_18 : decode M_CR_codeAt.2.1 18 = .ok (.goto 4, 3) := by decide +kernel
theorem d_CR_codeAt_21 : decode M_CR_codeAt.2.1 21 = .ok (.iconst (-1), 1) := by decide +kernel
theorem d_CR_codeAt_22 : decode M_CR_codeAt.2.1 22 = .ok (.ireturn, 1) := by decide +kernel
theorem d_CR_become_0 : decode M_CR_become.2.1 0 = .ok (.aload_n 1, 1) := by decide +kernel
theorem d_CR_become_1 : decode M_CR_become.2.1 1 = .ok (.getfield 9, 3) := by decide +kernel
theorem d_CR_become_4 : decode M_CR_become.2.1 4 = .ok (.iconst 0, 1) := by decide +kernel
theorem d_CR_become_5 : decode M_CR_become.2.1 5 = .ok (.aload_n 0, 1) := by decide +kernel
theorem d_CR_become_6 : decode M_CR_become.2.1 6 = .ok (.getfield 9, 3) := by decide +kernel
theorem d_CR_become_9 : decode M_CR_become.2.1 9 = .ok (.iconst 0, 1) := by decide +kernel
theorem d_CR_become_10 : decode M_CR_become.2.1 10 = .ok (.aload_n 1, 1) := by decide +kernel
theorem d_CR_become_11 : decode M_CR_become.2.1 11 = .ok (.getfield 15, 3) := by decide +kernel
theorem d_CR_become_14 : decode M_CR_become.2.1 14 = .ok (.invokestatic 19, 3) := by decide +kernel
theorem d_CR_become_17 : decode M_CR_become.2.1 17 = .ok (.aload_n 0, 1) := by decide +kernel
theorem d_CR_become_18 : decode M_CR_become.2.1 18 = .ok (.aload_n 1, 1) := by decide +kernel
theorem d_CR_become_19 : decode M_CR_become.2.1 19 = .ok (.getfield 15, 3) := by decide +kernel
theorem d_CR_become_22 : decode M_CR_become.2.1 22 = .ok (.putfield 15, 3) := by decide +kernel
theorem d_CR_become_25 : decode M_CR_become.2.1 25 = .ok (.return_, 1) := by decide +kernel
end
section
/-! methods of MS: written by wip/gen/mknames.py -/
def M_MS_init : wM := (⟨"CodePointSets$MemberSet", "<init>", "()V"⟩, prog_4_method_1_code, 1, none)
set_option maxRecDepth 100000 in
theorem yM_MS_init : wCy M_MS_init 0 := ⟨wIn 47 rfl (by decide +kernel), wIn 3 (by decide +kernel) (by decide +kernel), by decide +kernel, by decide +kernel, by decide +kernel, by decide +kernel⟩
theorem iM_MS_init : Cond.instanceMethod M_MS_init.1 ∈ wWL := wIn 46 (by decide +kernel) (by decide +kernel)
def M_MS_clear : wM := (⟨"CodePointSets$MemberSet", "clear", "()V"⟩, prog_4_method_4_code, 1, none)
set_option maxRecDepth 100000 in
theorem yM_MS_clear : wCy M_MS_clear 0 := ⟨wIn 396 rfl (by decide +kernel), wIn 3 (by decide +kernel) (by decide +kernel), by decide +kernel, by decide +kernel, by decide +kernel, by decide +kernel⟩
theorem vM_MS_clear : wCv M_MS_clear := ⟨wIn 394 (by decide +kernel) (by decide +kernel), wIn 395 (by decide +kernel) (by decide +kernel)⟩
def M_MS_becomeOthers : wM := (⟨"CodePointSets$MemberSet", "becomeOthers", "(LCodePointSets$MemberSet;)V"⟩, prog_4_method_9_code, 3, none)
set_option maxRecDepth 100000 in
theorem yM_MS_becomeOthers : wCy M_MS_becomeOthers 1 := ⟨wIn 408 rfl (by decide +kernel), wIn 3 (by decide +kernel) (by decide +kernel), by decide +kernel, by decide +kernel, by decide +kernel, by decide +kernel⟩
theorem vM_MS_becomeOthers : wCv M_MS_becomeOthers := ⟨wIn 406 (by decide +kernel) (by decide +kernel), wIn 407 (by decide +kernel) (by decide +kernel)⟩
def M_MS_toggleEdge : wM := (⟨"CodePointSets$MemberSet", "toggleEdge", "(I)V"⟩, prog_4_method_14_code, 2, none)
set_option maxRecDepth 100000 in
theorem yM_MS_toggleEdge : wCy M_MS_toggleEdge 1 := ⟨wIn 413 rfl (by decide +kernel), wIn 3 (by decide +kernel) (by decide +kernel), by decide +kernel, by decide +kernel, by decide +kernel, by decide +kernel⟩
theorem vM_MS_toggleEdge : wCv M_MS_toggleEdge := ⟨wIn 412 (by decide +kernel) (by decide +kernel), wSel (n := 4) (by decide +kernel)⟩
def M_MS_becomeMerge : wM := (⟨"CodePointSets$MemberSet", "becomeMerge", "(LCodePointSets$MemberSet;LCodePointSets$MemberSet;I)V"⟩, prog_4_method_10_code, 4, none)
set_option maxRecDepth 100000 in
theorem yM_MS_becomeMerge : wCy M_MS_becomeMerge 3 := ⟨wIn 422 rfl (by decide +kernel), wIn 3 (by decide +kernel) (by decide +kernel), by decide +kernel, by decide +kernel, by decide +kernel, by decide +kernel⟩
theorem vM_MS_becomeMerge : wCv M_MS_becomeMerge := ⟨wIn 420 (by decide +kernel) (by decide +kernel), wIn 421 (by decide +kernel) (by decide +kernel)⟩
def M_MS_mergeEdges : wM := (⟨"CodePointSets$MemberSet", "mergeEdges", "(LCodePointSets$MemberSet;LCodePointSets$MemberSet;I)V"⟩, prog_4_method_11_code, 13, none)
set_option maxRecDepth 100000 in
theorem yM_MS_mergeEdges : wCy M_MS_mergeEdges 3 := ⟨wIn 426 rfl (by decide +kernel), wIn 3 (by decide +kernel) (by decide +kernel), by decide +kernel, by decide +kernel, by decide +kernel, by decide +kernel⟩
theorem vM_MS_mergeEdges : wCv M_MS_mergeEdges := ⟨wIn 425 (by decide +kernel) (by decide +kernel), wSel (n := 4) (by decide +kernel)⟩
def M_MS_isKept : wM := (⟨"CodePointSets$MemberSet", "isKept", "(ZZI)Z"⟩, prog_4_method_13_code, 3, (some (.boolean)))
set_option maxRecDepth 100000 in
theorem yM_MS_isKept : wCy M_MS_isKept 3 := ⟨wIn 429 rfl (by decide +kernel), wIn 3 (by decide +kernel) (by decide +kernel), by decide +kernel, by decide +kernel, by decide +kernel, by decide +kernel⟩
theorem sM_MS_isKept : Cond.static M_MS_isKept.1 ∈ wWL := wIn 428 (by decide +kernel) (by decide +kernel)
def M_MS_mergeKeys : wM := (⟨"CodePointSets$MemberSet", "mergeKeys", "(LCodePointSets$MemberSet;LCodePointSets$MemberSet;I)V"⟩, prog_4_method_12_code, 14, none)
set_option maxRecDepth 100000 in
theorem yM_MS_mergeKeys : wCy M_MS_mergeKeys 3 := ⟨wIn 433 rfl (by decide +kernel), wIn 3 (by decide +kernel) (by decide +kernel), by decide +kernel, by decide +kernel, by decide +kernel, by decide +kernel⟩
theorem vM_MS_mergeKeys : wCv M_MS_mergeKeys := ⟨wIn 432 (by decide +kernel) (by decide +kernel), wSel (n := 4) (by decide +kernel)⟩
def M_MS_appendKey : wM := (⟨"CodePointSets$MemberSet", "appendKey", "(J)V"⟩, prog_4_method_15_code, 3, none)
set_option maxRecDepth 100000 in
theorem yM_MS_appendKey : wCy M_MS_appendKey 1 := ⟨wIn 438 rfl (by decide +kernel), wIn 3 (by decide +kernel) (by decide +kernel), by decide +kernel, by decide +kernel, by decide +kernel, by decide +kernel⟩
theorem vM_MS_appendKey : wCv M_MS_appendKey := ⟨wIn 437 (by decide +kernel) (by decide +kernel), wSel (n := 4) (by decide +kernel)⟩
def M_MS_becomeEdges : wM := (⟨"CodePointSets$MemberSet", "becomeEdges", "([I)V"⟩, prog_4_method_6_code, 3, none)
set_option maxRecDepth 100000 in
theorem yM_MS_becomeEdges : wCy M_MS_becomeEdges 1 := ⟨wIn 473 rfl (by decide +kernel), wIn 3 (by decide +kernel) (by decide +kernel), by decide +kernel, by decide +kernel, by decide +kernel, by decide +kernel⟩
theorem vM_MS_becomeEdges : wCv M_MS_becomeEdges := ⟨wIn 471 (by decide +kernel) (by decide +kernel), wIn 472 (by decide +kernel) (by decide +kernel)⟩
def M_MS_appendRange : wM := (⟨"CodePointSets$MemberSet", "appendRange", "(II)V"⟩, prog_4_method_8_code, 3, none)
set_option maxRecDepth 100000 in
theorem yM_MS_appendRange : wCy M_MS_appendRange 2 := ⟨wIn 486 rfl (by decide +kernel), wIn 3 (by decide +kernel) (by decide +kernel), by decide +kernel, by decide +kernel, by decide +kernel, by decide +kernel⟩
theorem vM_MS_appendRange : wCv M_MS_appendRange := ⟨wIn 484 (by decide +kernel) (by decide +kernel), wIn 485 (by decide +kernel) (by decide +kernel)⟩
def M_MS_keyOf : wM := (⟨"CodePointSets$MemberSet", "keyOf", "(III)J"⟩, prog_4_method_2_code, 3, (some (.long)))
set_option maxRecDepth 100000 in
theorem yM_MS_keyOf : wCy M_MS_keyOf 3 := ⟨wIn 489 rfl (by decide +kernel), wIn 3 (by decide +kernel) (by decide +kernel), by decide +kernel, by decide +kernel, by decide +kernel, by decide +kernel⟩
theorem sM_MS_keyOf : Cond.static M_MS_keyOf.1 ∈ wWL := wIn 488 (by decide +kernel) (by decide +kernel)
def M_MS_becomeString : wM := (⟨"CodePointSets$MemberSet", "becomeString", "(J)V"⟩, prog_4_method_7_code, 3, none)
set_option maxRecDepth 100000 in
theorem yM_MS_becomeString : wCy M_MS_becomeString 1 := ⟨wIn 493 rfl (by decide +kernel), wIn 3 (by decide +kernel) (by decide +kernel), by decide +kernel, by decide +kernel, by decide +kernel, by decide +kernel⟩
theorem vM_MS_becomeString : wCv M_MS_becomeString := ⟨wIn 491 (by decide +kernel) (by decide +kernel), wIn 492 (by decide +kernel) (by decide +kernel)⟩
def M_MS_become : wM := (⟨"CodePointSets$MemberSet", "become", "(LCodePointSets$MemberSet;)V"⟩, prog_4_method_5_code, 2, none)
set_option maxRecDepth 100000 in
theorem yM_MS_become : wCy M_MS_become 1 := ⟨wIn 509 rfl (by decide +kernel), wIn 3 (by decide +kernel) (by decide +kernel), by decide +kernel, by decide +kernel, by decide +kernel, by decide +kernel⟩
theorem vM_MS_become : wCv M_MS_become := ⟨wIn 507 (by decide +kernel) (by decide +kernel), wIn 508 (by decide +kernel) (by decide +kernel)⟩
def M_MS_codeOfKey : wM := (⟨"CodePointSets$MemberSet", "codeOfKey", "(JI)I"⟩, prog_4_method_3_code, 4, (some (.int)))
set_option maxRecDepth 100000 in
theorem yM_MS_codeOfKey : wCy M_MS_codeOfKey 2 := ⟨wIn 547 rfl (by decide +kernel), wIn 3 (by decide +kernel) (by decide +kernel), by decide +kernel, by decide +kernel, by decide +kernel, by decide +kernel⟩
theorem sM_MS_codeOfKey : Cond.static M_MS_codeOfKey.1 ∈ wWL := wIn 546 (by decide +kernel) (by decide +kernel)
def M_MS_holdsCode : wM := (⟨"CodePointSets$MemberSet", "holdsCode", "(I)Z"⟩, prog_4_method_16_code, 6, (some (.boolean)))
set_option maxRecDepth 100000 in
theorem yM_MS_holdsCode : wCy M_MS_holdsCode 1 := ⟨wIn 585 rfl (by decide +kernel), wIn 3 (by decide +kernel) (by decide +kernel), by decide +kernel, by decide +kernel, by decide +kernel, by decide +kernel⟩
theorem vM_MS_holdsCode : wCv M_MS_holdsCode := ⟨wIn 583 (by decide +kernel) (by decide +kernel), wIn 584 (by decide +kernel) (by decide +kernel)⟩
def M_MS_codeCount : wM := (⟨"CodePointSets$MemberSet", "codeCount", "()I"⟩, prog_4_method_18_code, 3, (some (.int)))
set_option maxRecDepth 100000 in
theorem yM_MS_codeCount : wCy M_MS_codeCount 0 := ⟨wIn 592 rfl (by decide +kernel), wIn 3 (by decide +kernel) (by decide +kernel), by decide +kernel, by decide +kernel, by decide +kernel, by decide +kernel⟩
theorem vM_MS_codeCount : wCv M_MS_codeCount := ⟨wIn 590 (by decide +kernel) (by decide +kernel), wIn 591 (by decide +kernel) (by decide +kernel)⟩
def M_MS_holdsString : wM := (⟨"CodePointSets$MemberSet", "holdsString", "(J)Z"⟩, prog_4_method_17_code, 4, (some (.boolean)))
set_option maxRecDepth 100000 in
theorem yM_MS_holdsString : wCy M_MS_holdsString 1 := ⟨wIn 610 rfl (by decide +kernel), wIn 3 (by decide +kernel) (by decide +kernel), by decide +kernel, by decide +kernel, by decide +kernel, by decide +kernel⟩
theorem vM_MS_holdsString : wCv M_MS_holdsString := ⟨wIn 608 (by decide +kernel) (by decide +kernel), wIn 609 (by decide +kernel) (by decide +kernel)⟩
def M_MS_codeOfRank : wM := (⟨"CodePointSets$MemberSet", "codeOfRank", "(I)I"⟩, prog_4_method_19_code, 5, (some (.int)))
set_option maxRecDepth 100000 in
theorem yM_MS_codeOfRank : wCy M_MS_codeOfRank 1 := ⟨wIn 634 rfl (by decide +kernel), wIn 3 (by decide +kernel) (by decide +kernel), by decide +kernel, by decide +kernel, by decide +kernel, by decide +kernel⟩
theorem vM_MS_codeOfRank : wCv M_MS_codeOfRank := ⟨wIn 632 (by decide +kernel) (by decide +kernel), wIn 633 (by decide +kernel) (by decide +kernel)⟩
/-! links of the pools of MS: written by wip/gen/mknames.py -/
theorem o_MS_5 : Cond.methodLink "CodePointSets$MemberSet" 5 Lib.objectInit ∈ wWL := wIn 48 (by decide +kernel) (by decide +kernel)
theorem f_MS_11 : wF "CodePointSets$MemberSet" 11 1 0 := ⟨("CodePointSets$MemberSet", wT_MS, 4), rfl, by decide, Or.inl (wIn 49 (by decide +kernel) (by decide +kernel))⟩
theorem f_MS_21 : wF "CodePointSets$MemberSet" 21 1 1 := ⟨("CodePointSets$MemberSet", wT_MS, 4), rfl, by decide, Or.inl (wIn 53 (by decide +kernel) (by decide +kernel))⟩
theorem f_MS_15 : wF "CodePointSets$MemberSet" 15 1 2 := ⟨("CodePointSets$MemberSet", wT_MS, 4), rfl, by decide, Or.inl (wIn 55 (by decide +kernel) (by decide +kernel))⟩
theorem f_MS_25 : wF "CodePointSets$MemberSet" 25 1 3 := ⟨("CodePointSets$MemberSet", wT_MS, 4), rfl, by decide, Or.inl (wIn 58 (by decide +kernel) (by decide +kernel))⟩
theorem l_MS_34 : wCl "CodePointSets$MemberSet" 34 M_MS_clear := Or.inl (wIn 409 (by decide +kernel) (by decide +kernel))
theorem l_MS_37 : wCl "CodePointSets$MemberSet" 37 M_MS_toggleEdge := Or.inl (wIn 410 (by decide +kernel) (by decide +kernel))
theorem k_MS_45 : Cond.constant "CodePointSets$MemberSet" 45 1114112 ∈ wWL := wIn 414 (by decide +kernel) (by decide +kernel)
theorem l_MS_46 : wCl "CodePointSets$MemberSet" 46 M_MS_mergeEdges := Or.inl (wIn 423 (by decide +kernel) (by decide +kernel))
theorem l_MS_53 : wCl "CodePointSets$MemberSet" 53 M_MS_isKept := Or.inl (wIn 427 (by decide +kernel) (by decide +kernel))
theorem l_MS_50 : wCl "CodePointSets$MemberSet" 50 M_MS_mergeKeys := Or.inl (wIn 430 (by decide +kernel) (by decide +kernel))
theorem k_MS_57 : Cond.constantLong "CodePointSets$MemberSet" 57 9223372036854775807 ∈ wWL := wIn 434 (by decide +kernel) (by decide +kernel)
theorem l_MS_41 : wCl "CodePointSets$MemberSet" 41 M_MS_appendKey := Or.inl (wIn 435 (by decide +kernel) (by decide +kernel))
theorem a_MS_28 : Cond.methodLink "CodePointSets$MemberSet" 28 arraycopyName ∈ wWL := wIn 510 (by decide +kernel) (by decide +kernel)
theorem k_MS_19 : Cond.constantLong "CodePointSets$MemberSet" 19 2097151 ∈ wWL := wIn 548 (by decide +kernel) (by decide +kernel)
end
section
/-! decode rows of MS: written by wip/gen/mknames.py -/
theorem d_MS_init_0 : decode M_MS_init.2.1 0 = .ok (.aload_n 0, 1) := by decide +kernel
theorem d_MS_init_1 : decode M_MS_init.2.1 1 = .ok (.invokespecial 5, 3) := by decide +kernel
theorem d_MS_init_4 : decode M_MS_init.2.1 4 = .ok (.aload_n 0, 1) := by decide +kernel
theorem d_MS_init_5 : decode M_MS_init.2.1 5 = .ok (.sipush 400, 3) := by decide +kernel
theorem d_MS_init_8 : decode M_MS_init.2.1 8 = .ok (.newarray .int, 2) := by decide +kernel
theorem d_MS_init_10 : decode M_MS_init.2.1 10 = .ok (.putfield 11, 3) := by decide +kernel
theorem d_MS_init_13 : decode M_MS_init.2.1 13 = .ok (.aload_n 0, 1) := by decide +kernel
theorem d_MS_init_14 : decode M_MS_init.2.1 14 = .ok (.bipush 16, 2) := by decide +kernel
theorem d_MS_init_16 : decode M_MS_init.2.1 16 = .ok (.newarray .long, 2) := by decide +kernel
theorem d_MS_init_18 : decode M_MS_init.2.1 18 = .ok (.putfield 15, 3) := by decide +kernel
theorem d_MS_init_21 : decode M_MS_init.2.1 21 = .ok (.return_, 1) := by decide +kernel
theorem d_MS_keyOf_0 : decode M_MS_keyOf.2.1 0 = .ok (.iload_n 0, 1) := by decide +kernel
theorem d_MS_keyOf_1 : decode M_MS_keyOf.2.1 1 = .ok (.i2l, 1) := by decide +kernel
theorem d_MS_keyOf_2 : decode M_MS_keyOf.2.1 2 = .ok (.lconst 1, 1) := by decide +kernel
theorem d_MS_keyOf_3 : decode M_MS_keyOf.2.1 3 = .ok (.ladd, 1) := by decide +kernel
theorem d_MS_keyOf_4 : decode M_MS_keyOf.2.1 4 = .ok (.bipush 42, 2) := by decide +kernel
theorem d_MS_keyOf_6 : decode M_MS_keyOf.2.1 6 = .ok (.lshl, 1) := by decide +kernel
theorem d_MS_keyOf_7 : decode M_MS_keyOf.2.1 7 = .ok (.iload_n 1, 1) := by decide +kernel
theorem d_MS_keyOf_8 : decode M_MS_keyOf.2.1 8 = .ok (.i2l, 1) := by decide +kernel
theorem d_MS_keyOf_9 : decode M_MS_keyOf.2.1 9 = .ok (.lconst 1, 1) := by decide +kernel
theorem d_MS_keyOf_10 : decode M_MS_keyOf.2.1 10 = .ok (.ladd, 1) := by decide +kernel
theorem d_MS_keyOf_11 : decode M_MS_keyOf.2.1 11 = .ok (.bipush 21, 2) := by decide +kernel
theorem d_MS_keyOf_13 : decode M_MS_keyOf.2.1 13 = .ok (.lshl, 1) := by decide +kernel
theorem d_MS_keyOf_14 : decode M_MS_keyOf.2.1 14 = .ok (.lor, 1) := by decide +kernel
theorem d_MS_keyOf_15 : decode M_MS_keyOf.2.1 15 = .ok (.iload_n 2, 1) := by decide +kernel
theorem d_MS_keyOf_16 : decode M_MS_keyOf.2.1 16 = .ok (.i2l, 1) := by decide +kernel
theorem d_MS_keyOf_17 : decode M_MS_keyOf.2.1 17 = .ok (.lconst 1, 1) := by decide +kernel
theorem d_MS_keyOf_18 : decode M_MS_keyOf.2.1 18 = .ok (.ladd, 1) := by decide +kernel
theorem d_MS_keyOf_19 : decode M_MS_keyOf.2.1 19 = .ok (.lor, 1) := by decide +kernel
theorem d_MS_keyOf_20 : decode M_MS_keyOf.2.1 20 = .ok (.lreturn, 1) := by decide +kernel
theorem d_MS_codeOfKey_0 : decode M_MS_codeOfKey.2.1 0 = .ok (.iconst 2, 1) := by decide +kernel
theorem d_MS_codeOfKey_1 : decode M_MS_codeOfKey.2.1 1 = .ok (.iload_n 2, 1) := by decide +kernel
theorem d_MS_codeOfKey_2 : decode M_MS_codeOfKey.2.1 2 = .ok (.isub, 1) := by decide +kernel
theorem d_MS_codeOfKey_3 : decode M_MS_codeOfKey.2.1 3 = .ok (.bipush 21, 2) := by decide +kernel
theorem d_MS_codeOfKey_5 : decode M_MS_codeOfKey.2.1 5 = .ok (.imul, 1) := by decide +kernel
theorem d_MS_codeOfKey_6 : decode M_MS_codeOfKey.2.1 6 = .ok (.istore_n 3, 1) := by decide +kernel
theorem d_MS_codeOfKey_7 : decode M_MS_codeOfKey.2.1 7 = .ok (.lload_n 0, 1) := by decide +kernel
theorem d_MS_codeOfKey_8 : decode M_MS_codeOfKey.2.1 8 = .ok (.iload_n 3, 1) := by decide +kernel
theorem d_MS_codeOfKey_9 : decode M_MS_codeOfKey.2.1 9 = .ok (.lshr, 1) := by decide +kernel
theorem d_MS_codeOfKey_10 : decode M_MS_codeOfKey.2.1 10 = .ok (.ldc2_w 19, 3) := by decide +kernel
theorem d_MS_codeOfKey_13 : decode M_MS_codeOfKey.2.1 13 = .ok (.land, 1) := by decide +kernel
theorem d_MS_codeOfKey_14 : decode M_MS_codeOfKey.2.1 14 = .ok (.l2i, 1) := by decide +kernel
theorem d_MS_codeOfKey_15 : decode M_MS_codeOfKey.2.1 15 = .ok (.iconst 1, 1) := by decide +kernel
theorem d_MS_codeOfKey_16 : decode M_MS_codeOfKey.2.1 16 = .ok (.isub, 1) := by decide +kernel
theorem d_MS_codeOfKey_17 : decode M_MS_codeOfKey.2.1 17 = .ok (.ireturn, 1) := by decide +kernel
theorem d_MS_clear_0 : decode M_MS_clear.2.1 0 = .ok (.aload_n 0, 1) := by decide +kernel
theorem d_MS_clear_1 : decode M_MS_clear.2.1 1 = .ok (.iconst 0, 1) := by decide +kernel
theorem d_MS_clear_2 : decode M_MS_clear.2.1 2 = .ok (.putfield 21, 3) := by decide +kernel
theorem d_MS_clear_5 : decode M_MS_clear.2.1 5 = .ok (.aload_n 0, 1) := by decide +kernel
theorem d_MS_clear_6 : decode M_MS_clear.2.1 6 = .ok (.iconst 0, 1) := by decide +kernel
theorem d_MS_clear_7 : decode M_MS_clear.2.1 7 = .ok (.putfield 25, 3) := by decide +kernel
theorem d_MS_clear_10 : decode M_MS_clear.2.1 10 = .ok (.return_, 1) := by decide +kernel
theorem d_MS_become_0 : decode M_MS_become.2.1 0 = .ok (.aload_n 1, 1) := by decide +kernel
theorem d_MS_become_1 : decode M_MS_become.2.1 1 = .ok (.getfield 11, 3) := by decide +kernel
theorem d_MS_become_4 : decode M_MS_become.2.1 4 = .ok (.iconst 0, 1) := by decide +kernel
theorem d_MS_become_5 : decode M_MS_become.2.1 5 = .ok (.aload_n 0, 1) := by decide +kernel
theorem d_MS_become_6 : decode M_MS_become.2.1 6 = .ok (.getfield 11, 3) := by decide +kernel
theorem d_MS_become_9 : decode M_MS_become.2.1 9 = .ok (.iconst 0, 1) := by decide +kernel
theorem d_MS_become_10 : decode M_MS_become.2.1 10 = .ok (.aload_n 1, 1) := by decide +kernel
theorem d_MS_become_11 : decode M_MS_become.2.1 11 = .ok (.getfield 21, 3) := by decide +kernel
theorem d_MS_become_14 : decode M_MS_become.2.1 14 = .ok (.invokestatic 28, 3) := by decide +kernel
theorem d_MS_become_17 : decode M_MS_become.2.1 17 = .ok (.aload_n 1, 1) := by decide +kernel
theorem d_MS_become_18 : decode M_MS_become.2.1 18 = .ok (.getfield 15, 3) := by decide +kernel
theorem d_MS_become_21 : decode M_MS_become.2.1 21 = .ok (.iconst 0, 1) := by decide +kernel
theorem d_MS_become_22 : decode M_MS_become.2.1 22 = .ok (.aload_n 0, 1) := by decide +kernel
theorem d_MS_become_23 : decode M_MS_become.2.1 23 = .ok (.getfield 15, 3) := by decide +kernel
theorem d_MS_become_26 : decode M_MS_become.2.1 26 = .ok (.iconst 0, 1) := by decide +kernel
theorem d_MS_become_27 : decode M_MS_become.2.1 27 = .ok (.aload_n 1, 1) := by decide +kernel
theorem d_MS_become_28 : decode M_MS_become.2.1 28 = .ok (.getfield 25, 3) := by decide +kernel
theorem d_MS_become_31 : decode M_MS_become.2.1 31 = .ok (.invokestatic 28, 3) := by decide +kernel
theorem d_MS_become_34 : decode M_MS_become.2.1 34 = .ok (.aload_n 0, 1) := by decide +kernel
theorem d_MS_become_35 : decode M_MS_become.2.1 35 = .ok (.aload_n 1, 1) := by decide +kernel
theorem d_MS_become_36 : decode M_MS_become.2.1 36 = .ok (.getfield 21, 3) := by decide +kernel
theorem d_MS_become_39 : decode M_MS_become.2.1 39 = .ok (.putfield 21, 3) := by decide +kernel
theorem d_MS_become_42 : decode M_MS_become.2.1 42 = .ok (.aload_n 0, 1) := by decide +kernel
theorem d_MS_become_43 : decode M_MS_become.2.1 43 = .ok (.aload_n 1, 1) := by decide +kernel
theorem d_MS_become_44 : decode M_MS_become.2.1 44 = .ok (.getfield 25, 3) := by decide +kernel
theorem d_MS_become_47 : decode M_MS_become.2.1 47 = .ok (.putfield 25, 3) := by decide +kernel
theorem d_MS_become_50 : decode M_MS_become.2.1 50 = .ok (.return_, 1) := by decide +kernel
theorem d_MS_becomeEdges_0 : decode M_MS_becomeEdges.2.1 0 = .ok (.aload_n 0, 1) := by decide +kernel
theorem d_MS_becomeEdges_1 : decode M_MS_becomeEdges.2.1 1 = .ok (.invokevirtual 34, 3) := by decide +kernel
theorem d_MS_becomeEdges_4 : decode M_MS_becomeEdges.2.1 4 = .ok (.iconst 0, 1) := by decide +kernel
theorem d_MS_becomeEdges_5 : decode M_MS_becomeEdges.2.1 5 = .ok (.istore_n 2, 1) := by decide +kernel
theorem d_MS_becomeEdges_6 : decode M_MS_becomeEdges.2.1 6 = .ok (.iload_n 2, 1) := by decide +kernel
theorem d_MS_becomeEdges_7 : decode M_MS_becomeEdges.2.1 7 = .ok (.aload_n 1, 1) := by decide +kernel
theorem d_MS_becomeEdges_8 : decode M_MS_becomeEdges.2.1 8 = .ok (.arraylength, 1) := by decide +kernel
theorem d_MS_becomeEdges_9 : decode M_MS_becomeEdges.2.1 9 = .ok (.if_icmp .ge 16, 3) := by decide +kernel
theorem d_MS_becomeEdges_12 : decode M_MS_becomeEdges.2.1 12 = .ok (.aload_n 0, 1) := by decide +kernel
theorem d_MS_becomeEdges_13 : decode M_MS_becomeEdges.2.1 13 = .ok (.aload_n 1, 1) := by decide +kernel
theorem d_MS_becomeEdges_14 : decode M_MS_becomeEdges.2.1 14 = .ok (.iload_n 2, 1) := by decide +kernel
theorem d_MS_becomeEdges_15 : decode M_MS_becomeEdges.2.1 15 = .ok (.iaload, 1) := by decide +kernel
theorem d_MS_becomeEdges_16 : decode M_MS_becomeEdges.2.1 16 = .ok (.invokevirtual 37, 3) := by decide +kernel
theorem d_MS_becomeEdges_19 : decode M_MS_becomeEdges.2.1 19 = .ok (.iinc 2 1, 3) := by decide +kernel
theorem d_MS_becomeEdges_22 : decode M_MS_becomeEdges.2.1 22 = .ok (.goto (-16), 3) := by decide +kernel
theorem d_MS_becomeEdges_25 : decode M_MS_becomeEdges.2.1 25 = .ok (.return_, 1) := by decide +kernel
theorem d_MS_becomeString_0 : decode M_MS_becomeString.2.1 0 = .ok (.aload_n 0, 1) := by decide +kernel
theorem d_MS_becomeString_1 : decode M_MS_becomeString.2.1 1 = .ok (.invokevirtual 34, 3) := by decide +kernel
theorem d_MS_becomeString_4 : decode M_MS_becomeString.2.1 4 = .ok (.aload_n 0, 1) := by decide +kernel
theorem d_MS_becomeString_5 : decode M_MS_becomeString.2.1 5 = .ok (.lload_n 1, 1) := by decide +kernel
theorem d_MS_becomeString_6 : decode M_MS_becomeString.2.1 6 = .ok (.invokevirtual 41, 3) := by decide +kernel
theorem d_MS_becomeString_9 : decode M_MS_becomeString.2.1 9 = .ok (.return_, 1) := by decide +kernel
theorem d_MS_appendRange_0 : decode M_MS_appendRange.2.1 0 = .ok (.aload_n 0, 1) := by decide +kernel
theorem d_MS_appendRange_1 : decode M_MS_appendRange.2.1 1 = .ok (.iload_n 1, 1) := by decide +kernel
theorem d_MS_appendRange_2 : decode M_MS_appendRange.2.1 2 = .ok (.invokevirtual 37, 3) := by decide +kernel
theorem d_MS_appendRange_5 : decode M_MS_appendRange.2.1 5 = .ok (.aload_n 0, 1) := by decide +kernel
theorem d_MS_appendRange_6 : decode M_MS_appendRange.2.1 6 = .ok (.iload_n 2, 1) := by decide +kernel
theorem d_MS_appendRange_7 : decode M_MS_appendRange.2.1 7 = .ok (.iconst 1, 1) := by decide +kernel
theorem d_MS_appendRange_8 : decode M_MS_appendRange.2.1 8 = .ok (.iadd, 1) := by decide +kernel
theorem d_MS_appendRange_9 : decode M_MS_appendRange.2.1 9 = .ok (.invokevirtual 37, 3) := by decide +kernel
theorem d_MS_appendRange_12 : decode M_MS_appendRange.2.1 12 = .ok (.return_, 1) := by decide +kernel
theorem d_MS_becomeOthers_0 : decode M_MS_becomeOthers.2.1 0 = .ok (.aload_n 0, 1) := by decide +kernel
theorem d_MS_becomeOthers_1 : decode M_MS_becomeOthers.2.1 1 = .ok (.invokevirtual 34, 3) := by decide +kernel
theorem d_MS_becomeOthers_4 : decode M_MS_becomeOthers.2.1 4 = .ok (.aload_n 0, 1) := by decide +kernel
theorem d_MS_becomeOthers_5 : decode M_MS_becomeOthers.2.1 5 = .ok (.iconst 0, 1) := by decide +kernel
theorem d_MS_becomeOthers_6 : decode M_MS_becomeOthers.2.1 6 = .ok (.invokevirtual 37, 3) := by decide +kernel
theorem d_MS_becomeOthers_9 : decode M_MS_becomeOthers.2.1 9 = .ok (.iconst 0, 1) := by decide +kernel
theorem d_MS_becomeOthers_10 : decode M_MS_becomeOthers.2.1 10 = .ok (.istore_n 2, 1) := by decide +kernel
theorem d_MS_becomeOthers_11 : decode M_MS_becomeOthers.2.1 11 = .ok (.iload_n 2, 1) := by decide +kernel
theorem d_MS_becomeOthers_12 : decode M_MS_becomeOthers.2.1 12 = .ok (.aload_n 1, 1) := by decide +kernel
theorem d_MS_becomeOthers_13 : decode M_MS_becomeOthers.2.1 13 = .ok (.getfield 21, 3) := by decide +kernel
theorem d_MS_becomeOthers_16 : decode M_MS_becomeOthers.2.1 16 = .ok (.if_icmp .ge 19, 3) := by decide +kernel
theorem d_MS_becomeOthers_19 : decode M_MS_becomeOthers.2.1 19 = .ok (.aload_n 0, 1) := by decide +kernel
theorem d_MS_becomeOthers_20 : decode M_MS_becomeOthers.2.1 20 = .ok (.aload_n 1, 1) := by decide +kernel
theorem d_MS_becomeOthers_21 : decode M_MS_becomeOthers.2.1 21 = .ok (.getfield 11, 3) := by decide +kernel
theorem d_MS_becomeOthers_24 : decode M_MS_becomeOthers.2.1 24 = .ok (.iload_n 2, 1) := by decide +kernel
theorem d_MS_becomeOthers_25 : decode M_MS_becomeOthers.2.1 25 = .ok (.iaload, 1) := by decide +kernel
theorem d_MS_becomeOthers_26 : decode M_MS_becomeOthers.2.1 26 = .ok (.invokevirtual 37, 3) := by decide +kernel
theorem d_MS_becomeOthers_29 : decode M_MS_becomeOthers.2.1 29 = .ok (.iinc 2 1, 3) := by decide +kernel
theorem d_MS_becomeOthers_32 : decode M_MS_becomeOthers.2.1 32 = .ok (.goto (-21), 3) := by decide +kernel
theorem d_MS_becomeOthers_35 : decode M_MS_becomeOthers.2.1 35 = .ok (.aload_n 0, 1) := by decide +kernel
theorem d_MS_becomeOthers_36 : decode M_MS_becomeOthers.2.1 36 = .ok (.ldc 45, 2) := by decide +kernel
theorem d_MS_becomeOthers_38 : decode M_MS_becomeOthers.2.1 38 = .ok (.invokevirtual 37, 3) := by decide +kernel
theorem d_MS_becomeOthers_41 : decode M_MS_becomeOthers.2.1 41 = .ok (.return_, 1) := by decide +kernel
theorem d_MS_becomeMerge_0 : decode M_MS_becomeMerge.2.1 0 = .ok (.aload_n 0, 1) := by decide +kernel
theorem d_MS_becomeMerge_1 : decode M_MS_becomeMerge.2.1 1 = .ok (.invokevirtual 34, 3) := by decide +kernel
theorem d_MS_becomeMerge_4 : decode M_MS_becomeMerge.2.1 4 = .ok (.aload_n 0, 1) := by decide +kernel
theorem d_MS_becomeMerge_5 : decode M_MS_becomeMerge.2.1 5 = .ok (.aload_n 1, 1) := by decide +kernel
theorem d_MS_becomeMerge_6 : decode M_MS_becomeMerge.2.1 6 = .ok (.aload_n 2, 1) := by decide +kernel
theorem d_MS_becomeMerge_7 : decode M_MS_becomeMerge.2.1 7 = .ok (.iload_n 3, 1) := by decide +kernel
theorem d_MS_becomeMerge_8 : decode M_MS_becomeMerge.2.1 8 = .ok (.invokevirtual 46, 3) := by decide +kernel
theorem d_MS_becomeMerge_11 : decode M_MS_becomeMerge.2.1 11 = .ok (.aload_n 0, 1) := by decide +kernel
theorem d_MS_becomeMerge_12 : decode M_MS_becomeMerge.2.1 12 = .ok (.aload_n 1, 1) := by decide +kernel
theorem d_MS_becomeMerge_13 : decode M_MS_becomeMerge.2.1 13 = .ok (.aload_n 2, 1) := by decide +kernel
theorem d_MS_becomeMerge_14 : decode M_MS_becomeMerge.2.1 14 = .ok (.iload_n 3, 1) := by decide +kernel
theorem d_MS_becomeMerge_15 : decode M_MS_becomeMerge.2.1 15 = .ok (.invokevirtual 50, 3) := by decide +kernel
theorem d_MS_becomeMerge_18 : decode M_MS_becomeMerge.2.1 18 = .ok (.return_, 1) := by decide +kernel
theorem d_MS_mergeEdges_0 : decode M_MS_mergeEdges.2.1 0 = .ok (.iconst 0, 1) := by decide +kernel
theorem d_MS_mergeEdges_1 : decode M_MS_mergeEdges.2.1 1 = .ok (.istore 4, 2) := by decide +kernel
theorem d_MS_mergeEdges_3 : decode M_MS_mergeEdges.2.1 3 = .ok (.iconst 0, 1) := by decide +kernel
theorem d_MS_mergeEdges_4 : decode M_MS_mergeEdges.2.1 4 = .ok (.istore 5, 2) := by decide +kernel
theorem d_MS_mergeEdges_6 : decode M_MS_mergeEdges.2.1 6 = .ok (.iconst 0, 1) := by decide +kernel
theorem d_MS_mergeEdges_7 : decode M_MS_mergeEdges.2.1 7 = .ok (.istore 6, 2) := by decide +kernel
theorem d_MS_mergeEdges_9 : decode M_MS_mergeEdges.2.1 9 = .ok (.aload_n 1, 1) := by decide +kernel
theorem d_MS_mergeEdges_10 : decode M_MS_mergeEdges.2.1 10 = .ok (.getfield 21, 3) := by decide +kernel
theorem d_MS_mergeEdges_13 : decode M_MS_mergeEdges.2.1 13 = .ok (.aload_n 2, 1) := by decide +kernel
theorem d_MS_mergeEdges_14 : decode M_MS_mergeEdges.2.1 14 = .ok (.getfield 21, 3) := by decide +kernel
theorem d_MS_mergeEdges_17 : decode M_MS_mergeEdges.2.1 17 = .ok (.iadd, 1) := by decide +kernel
theorem d_MS_mergeEdges_18 : decode M_MS_mergeEdges.2.1 18 = .ok (.istore 7, 2) := by decide +kernel
theorem d_MS_mergeEdges_20 : decode M_MS_mergeEdges.2.1 20 = .ok (.iconst 0, 1) := by decide +kernel
theorem d_MS_mergeEdges_21 : decode M_MS_mergeEdges.2.1 21 = .ok (.istore 8, 2) := by decide +kernel
theorem d_MS_mergeEdges_23 : decode M_MS_mergeEdges.2.1 23 = .ok (.iload 8, 2) := by decide +kernel
theorem d_MS_mergeEdges_25 : decode M_MS_mergeEdges.2.1 25 = .ok (.iload 7, 2) := by decide +kernel
theorem d_MS_mergeEdges_27 : decode M_MS_mergeEdges.2.1 27 = .ok (.if_icmp .ge 176, 3) := by decide +kernel
theorem d_MS_mergeEdges_30 : decode M_MS_mergeEdges.2.1 30 = .ok (.iload 4, 2) := by decide +kernel
theorem d_MS_mergeEdges_32 : decode M_MS_mergeEdges.2.1 32 = .ok (.aload_n 1, 1) := by decide +kernel
theorem d_MS_mergeEdges_33 : decode M_MS_mergeEdges.2.1 33 = .ok (.getfield 21, 3) := by decide +kernel
theorem d_MS_mergeEdges_36 : decode M_MS_mergeEdges.2.1 36 = .ok (.if_icmp .lt 12, 3) := by decide +kernel
theorem d_MS_mergeEdges_39 : decode M_MS_mergeEdges.2.1 39 = .ok (.iload 5, 2) := by decide +kernel
theorem d_MS_mergeEdges_41 : decode M_MS_mergeEdges.2.1 41 = .ok (.aload_n 2, 1) := by decide +kernel
theorem d_MS_mergeEdges_42 : decode M_MS_mergeEdges.2.1 42 = .ok (.getfield 21, 3) := by decide +kernel
theorem d_MS_mergeEdges_45 : decode M_MS_mergeEdges.2.1 45 = .ok (.if_icmp .ge 158, 3) := by decide +kernel
theorem d_MS_mergeEdges_48 : decode M_MS_mergeEdges.2.1 48 = .ok (.iload 4, 2) := by decide +kernel
theorem d_MS_mergeEdges_50 : decode M_MS_mergeEdges.2.1 50 = .ok (.aload_n 1, 1) := by decide +kernel
theorem d_MS_mergeEdges_51 : decode M_MS_mergeEdges.2.1 51 = .ok (.getfield 21, 3) := by decide +kernel
theorem d_MS_mergeEdges_54 : decode M_MS_mergeEdges.2.1 54 = .ok (.if_icmp .ge 13, 3) := by decide +kernel
theorem d_MS_mergeEdges_57 : decode M_MS_mergeEdges.2.1 57 = .ok (.aload_n 1, 1) := by decide +kernel
theorem d_MS_mergeEdges_58 : decode M_MS_mergeEdges.2.1 58 = .ok (.getfield 11, 3) := by decide +kernel
theorem d_MS_mergeEdges_61 : decode M_MS_mergeEdges.2.1 61 = .ok (.iload 4, 2) := by decide +kernel
theorem d_MS_mergeEdges_63 : decode M_MS_mergeEdges.2.1 63 = .ok (.iaload, 1) := by decide +kernel
theorem d_MS_mergeEdges_64 : decode M_MS_mergeEdges.2.1 64 = .ok (.goto 5, 3) := by decide +kernel
theorem d_MS_mergeEdges_67 : decode M_MS_mergeEdges.2.1 67 = .ok (.ldc 45, 2) := by decide +kernel
theorem d_MS_mergeEdges_69 : decode M_MS_mergeEdges.2.1 69 = .ok (.istore 9, 2) := by decide +kernel
theorem d_MS_mergeEdges_71 : decode M_MS_mergeEdges.2.1 71 = .ok (.iload 5, 2) := by decide +kernel
theorem d_MS_mergeEdges_73 : decode M_MS_mergeEdges.2.1 73 = .ok (.aload_n 2, 1) := by decide +kernel
theorem d_MS_mergeEdges_74 : decode M_MS_mergeEdges.2.1 74 = .ok (.getfield 21, 3) := by decide +kernel
theorem d_MS_mergeEdges_77 : decode M_MS_mergeEdges.2.1 77 = .ok (.if_icmp .ge 13, 3) := by decide +kernel
theorem d_MS_mergeEdges_80 : decode M_MS_mergeEdges.2.1 80 = .ok (.aload_n 2, 1) := by decide +kernel
theorem d_MS_mergeEdges_81 : decode M_MS_mergeEdges.2.1 81 = .ok (.getfield 11, 3) := by decide +kernel
theorem d_MS_mergeEdges_84 : decode M_MS_mergeEdges.2.1 84 = .ok (.iload 5, 2) := by decide +kernel
theorem d_MS_mergeEdges_86 : decode M_MS_mergeEdges.2.1 86 = .ok (.iaload, 1) := by decide +kernel
theorem d_MS_mergeEdges_87 : decode M_MS_mergeEdges.2.1 87 = .ok (.goto 5, 3) := by decide +kernel
theorem d_MS_mergeEdges_90 : decode M_MS_mergeEdges.2.1 90 = .ok (.ldc 45, 2) := by decide +kernel
theorem d_MS_mergeEdges_92 : decode M_MS_mergeEdges.2.1 92 = .ok (.istore 10, 2) := by decide +kernel
theorem d_MS_mergeEdges_94 : decode M_MS_mergeEdges.2.1 94 = .ok (.iload 9, 2) := by decide +kernel
theorem d_MS_mergeEdges_96 : decode M_MS_mergeEdges.2.1 96 = .ok (.iload 10, 2) := by decide +kernel
theorem d_MS_mergeEdges_98 : decode M_MS_mergeEdges.2.1 98 = .ok (.if_icmp .ge 8, 3) := by decide +kernel
theorem d_MS_mergeEdges_101 : decode M_MS_mergeEdges.2.1 101 = .ok (.iload 9, 2) := by decide +kernel
theorem d_MS_mergeEdges_103 : decode M_MS_mergeEdges.2.1 103 = .ok (.goto 5, 3) := by decide +kernel
theorem d_MS_mergeEdges_106 : decode M_MS_mergeEdges.2.1 106 = .ok (.iload 10, 2) := by decide +kernel
theorem d_MS_mergeEdges_108 : decode M_MS_mergeEdges.2.1 108 = .ok (.istore 11, 2) := by decide +kernel
theorem d_MS_mergeEdges_110 : decode M_MS_mergeEdges.2.1 110 = .ok (.iload 9, 2) := by decide +kernel
theorem d_MS_mergeEdges_112 : decode M_MS_mergeEdges.2.1 112 = .ok (.iload 11, 2) := by decide +kernel
theorem d_MS_mergeEdges_114 : decode M_MS_mergeEdges.2.1 114 = .ok (.if_icmp .ne 15, 3) := by decide +kernel
theorem d_MS_mergeEdges_117 : decode M_MS_mergeEdges.2.1 117 = .ok (.iload 4, 2) := by decide +kernel
theorem d_MS_mergeEdges_119 : decode M_MS_mergeEdges.2.1 119 = .ok (.aload_n 1, 1) := by decide +kernel
theorem d_MS_mergeEdges_120 : decode M_MS_mergeEdges.2.1 120 = .ok (.getfield 21, 3) := by decide +kernel
theorem d_MS_mergeEdges_123 : decode M_MS_mergeEdges.2.1 123 = .ok (.if_icmp .ge 6, 3) := by decide +kernel
theorem d_MS_mergeEdges_126 : decode M_MS_mergeEdges.2.1 126 = .ok (.iinc 4 1, 3) := by decide +kernel
theorem d_MS_mergeEdges_129 : decode M_MS_mergeEdges.2.1 129 = .ok (.iload 10, 2) := by decide +kernel
theorem d_MS_mergeEdges_131 : decode M_MS_mergeEdges.2.1 131 = .ok (.iload 11, 2) := by decide +kernel
theorem d_MS_mergeEdges_133 : decode M_MS_mergeEdges.2.1 133 = .ok (.if_icmp .ne 15, 3) := by decide +kernel
theorem d_MS_mergeEdges_136 : decode M_MS_mergeEdges.2.1 136 = .ok (.iload 5, 2) := by decide +kernel
theorem d_MS_mergeEdges_138 : decode M_MS_mergeEdges.2.1 138 = .ok (.aload_n 2, 1) := by decide +kernel
theorem d_MS_mergeEdges_139 : decode M_MS_mergeEdges.2.1 139 = .ok (.getfield 21, 3) := by decide +kernel
theorem d_MS_mergeEdges_142 : decode M_MS_mergeEdges.2.1 142 = .ok (.if_icmp .ge 6, 3) := by decide +kernel
theorem d_MS_mergeEdges_145 : decode M_MS_mergeEdges.2.1 145 = .ok (.iinc 5 1, 3) := by decide +kernel
theorem d_MS_mergeEdges_148 : decode M_MS_mergeEdges.2.1 148 = .ok (.iload 4, 2) := by decide +kernel
theorem d_MS_mergeEdges_150 : decode M_MS_mergeEdges.2.1 150 = .ok (.iconst 1, 1) := by decide +kernel
theorem d_MS_mergeEdges_151 : decode M_MS_mergeEdges.2.1 151 = .ok (.iand, 1) := by decide +kernel
theorem d_MS_mergeEdges_152 : decode M_MS_mergeEdges.2.1 152 = .ok (.iconst 1, 1) := by decide +kernel
theorem d_MS_mergeEdges_153 : decode M_MS_mergeEdges.2.1 153 = .ok (.if_icmp .ne 7, 3) := by decide +kernel
theorem d_MS_mergeEdges_156 : decode M_MS_mergeEdges.2.1 156 = .ok (.iconst 1, 1) := by decide +kernel
theorem d_MS_mergeEdges_157 : decode M_MS_mergeEdges.2.1 157 = .ok (.goto 4, 3) := by decide +kernel
theorem d_MS_mergeEdges_160 : decode M_MS_mergeEdges.2.1 160 = .ok (.iconst 0, 1) := by decide +kernel
theorem d_MS_mergeEdges_161 : decode M_MS_mergeEdges.2.1 161 = .ok (.iload 5, 2) := by decide +kernel
theorem d_MS_mergeEdges_163 : decode M_MS_mergeEdges.2.1 163 = .ok (.iconst 1, 1) := by decide +kernel
theorem d_MS_mergeEdges_164 : decode M_MS_mergeEdges.2.1 164 = .ok (.iand, 1) := by decide +kernel
theorem d_MS_mergeEdges_165 : decode M_MS_mergeEdges.2.1 165 = .ok (.iconst 1, 1) := by decide +kernel
theorem d_MS_mergeEdges_166 : decode M_MS_mergeEdges.2.1 166 = .ok (.if_icmp .ne 7, 3) := by decide +kernel
theorem d_MS_mergeEdges_169 : decode M_MS_mergeEdges.2.1 169 = .ok (.iconst 1, 1) := by decide +kernel
theorem d_MS_mergeEdges_170 : decode M_MS_mergeEdges.2.1 170 = .ok (.goto 4, 3) := by decide +kernel
theorem d_MS_mergeEdges_173 : decode M_MS_mergeEdges.2.1 173 = .ok (.iconst 0, 1) := by decide +kernel
theorem d_MS_mergeEdges_174 : decode M_MS_mergeEdges.2.1 174 = .ok (.iload_n 3, 1) := by decide +kernel
theorem d_MS_mergeEdges_175 : decode M_MS_mergeEdges.2.1 175 = .ok (.invokestatic 53, 3) := by decide +kernel
theorem d_MS_mergeEdges_178 : decode M_MS_mergeEdges.2.1 178 = .ok (.istore 12, 2) := by decide +kernel
theorem d_MS_mergeEdges_180 : decode M_MS_mergeEdges.2.1 180 = .ok (.iload 12, 2) := by decide +kernel
theorem d_MS_mergeEdges_182 : decode M_MS_mergeEdges.2.1 182 = .ok (.iload 6, 2) := by decide +kernel
theorem d_MS_mergeEdges_184 : decode M_MS_mergeEdges.2.1 184 = .ok (.if_icmp .eq 13, 3) := by decide +kernel
theorem d_MS_mergeEdges_187 : decode M_MS_mergeEdges.2.1 187 = .ok (.aload_n 0, 1) := by decide +kernel
theorem d_MS_mergeEdges_188 : decode M_MS_mergeEdges.2.1 188 = .ok (.iload 11, 2) := by decide +kernel
theorem d_MS_mergeEdges_190 : decode M_MS_mergeEdges.2.1 190 = .ok (.invokevirtual 37, 3) := by decide +kernel
theorem d_MS_mergeEdges_193 : decode M_MS_mergeEdges.2.1 193 = .ok (.iload 12, 2) := by decide +kernel
theorem d_MS_mergeEdges_195 : decode M_MS_mergeEdges.2.1 195 = .ok (.istore 6, 2) := by decide +kernel
theorem d_MS_mergeEdges_197 : decode M_MS_mergeEdges.2.1 197 = .ok (.iinc 8 1, 3) := by decide +kernel
theorem d_MS_mergeEdges_200 : decode M_MS_mergeEdges.2.1 200 = .ok (.goto (-177), 3) := by decide +kernel
theorem d_MS_mergeEdges_203 : decode M_MS_mergeEdges.2.1 203 = .ok (.return_, 1) := by decide +kernel
theorem d_MS_mergeKeys_0 : decode M_MS_mergeKeys.2.1 0 = .ok (.iconst 0, 1) := by decide +kernel
theorem d_MS_mergeKeys_1 : decode M_MS_mergeKeys.2.1 1 = .ok (.istore 4, 2) := by decide +kernel
theorem d_MS_mergeKeys_3 : decode M_MS_mergeKeys.2.1 3 = .ok (.iconst 0, 1) := by decide +kernel
theorem d_MS_mergeKeys_4 : decode M_MS_mergeKeys.2.1 4 = .ok (.istore 5, 2) := by decide +kernel
theorem d_MS_mergeKeys_6 : decode M_MS_mergeKeys.2.1 6 = .ok (.aload_n 1, 1) := by decide +kernel
theorem d_MS_mergeKeys_7 : decode M_MS_mergeKeys.2.1 7 = .ok (.getfield 25, 3) := by decide +kernel
theorem d_MS_mergeKeys_10 : decode M_MS_mergeKeys.2.1 10 = .ok (.aload_n 2, 1) := by decide +kernel
theorem d_MS_mergeKeys_11 : decode M_MS_mergeKeys.2.1 11 = .ok (.getfield 25, 3) := by decide +kernel
theorem d_MS_mergeKeys_14 : decode M_MS_mergeKeys.2.1 14 = .ok (.iadd, 1) := by decide +kernel
theorem d_MS_mergeKeys_15 : decode M_MS_mergeKeys.2.1 15 = .ok (.istore 6, 2) := by decide +kernel
theorem d_MS_mergeKeys_17 : decode M_MS_mergeKeys.2.1 17 = .ok (.iconst 0, 1) := by decide +kernel
theorem d_MS_mergeKeys_18 : decode M_MS_mergeKeys.2.1 18 = .ok (.istore 7, 2) := by decide +kernel
theorem d_MS_mergeKeys_20 : decode M_MS_mergeKeys.2.1 20 = .ok (.iload 7, 2) := by decide +kernel
theorem d_MS_mergeKeys_22 : decode M_MS_mergeKeys.2.1 22 = .ok (.iload 6, 2) := by decide +kernel
theorem d_MS_mergeKeys_24 : decode M_MS_mergeKeys.2.1 24 = .ok (.if_icmp .ge 153, 3) := by decide +kernel
theorem d_MS_mergeKeys_27 : decode M_MS_mergeKeys.2.1 27 = .ok (.iload 4, 2) := by decide +kernel
theorem d_MS_mergeKeys_29 : decode M_MS_mergeKeys.2.1 29 = .ok (.aload_n 1, 1) := by decide +kernel
theorem d_MS_mergeKeys_30 : decode M_MS_mergeKeys.2.1 30 = .ok (.getfield 25, 3) := by decide +kernel
theorem d_MS_mergeKeys_33 : decode M_MS_mergeKeys.2.1 33 = .ok (.if_icmp .lt 12, 3) := by decide +kernel
theorem d_MS_mergeKeys_36 : decode M_MS_mergeKeys.2.1 36 = .ok (.iload 5, 2) := by decide +kernel
theorem d_MS_mergeKeys_38 : decode M_MS_mergeKeys.2.1 38 = .ok (.aload_n 2, 1) := by decide +kernel
theorem d_MS_mergeKeys_39 : decode M_MS_mergeKeys.2.1 39 = .ok (.getfield 25, 3) := by decide +kernel
theorem d_MS_mergeKeys_42 : decode M_MS_mergeKeys.2.1 42 = .ok (.if_icmp .ge 135, 3) := by decide +kernel
theorem d_MS_mergeKeys_45 : decode M_MS_mergeKeys.2.1 45 = .ok (.iload 4, 2) := by decide +kernel
theorem d_MS_mergeKeys_47 : decode M_MS_mergeKeys.2.1 47 = .ok (.aload_n 1, 1) := by decide +kernel
theorem d_MS_mergeKeys_48 : decode M_MS_mergeKeys.2.1 48 = .ok (.getfield 25, 3) := by decide +kernel
theorem d_MS_mergeKeys_51 : decode M_MS_mergeKeys.2.1 51 = .ok (.if_icmp .ge 13, 3) := by decide +kernel
theorem d_MS_mergeKeys_54 : decode M_MS_mergeKeys.2.1 54 = .ok (.aload_n 1, 1) := by decide +kernel
theorem d_MS_mergeKeys_55 : decode M_MS_mergeKeys.2.1 55 = .ok (.getfield 15, 3) := by decide +kernel
theorem d_MS_mergeKeys_58 : decode M_MS_mergeKeys.2.1 58 = .ok (.iload 4, 2) := by decide +kernel
theorem d_MS_mergeKeys_60 : decode M_MS_mergeKeys.2.1 60 = .ok (.laload, 1) := by decide +kernel
theorem d_MS_mergeKeys_61 : decode M_MS_mergeKeys.2.1 61 = .ok (.goto 6, 3) := by decide +kernel
theorem d_MS_mergeKeys_64 : decode M_MS_mergeKeys.2.1 64 = .ok (.ldc2_w 57, 3) := by decide +kernel
theorem d_MS_mergeKeys_67 : decode M_MS_mergeKeys.2.1 67 = .ok (.lstore 8, 2) := by decide +kernel
theorem d_MS_mergeKeys_69 : decode M_MS_mergeKeys.2.1 69 = .ok (.iload 5, 2) := by decide +kernel
theorem d_MS_mergeKeys_71 : decode M_MS_mergeKeys.2.1 71 = .ok (.aload_n 2, 1) := by decide +kernel
theorem d_MS_mergeKeys_72 : decode M_MS_mergeKeys.2.1 72 = .ok (.getfield 25, 3) := by decide +kernel
theorem d_MS_mergeKeys_75 : decode M_MS_mergeKeys.2.1 75 = .ok (.if_icmp .ge 13, 3) := by decide +kernel
theorem d_MS_mergeKeys_78 : decode M_MS_mergeKeys.2.1 78 = .ok (.aload_n 2, 1) := by decide +kernel
theorem d_MS_mergeKeys_79 : decode M_MS_mergeKeys.2.1 79 = .ok (.getfield 15, 3) := by decide +kernel
theorem d_MS_mergeKeys_82 : decode M_MS_mergeKeys.2.1 82 = .ok (.iload 5, 2) := by decide +kernel
theorem d_MS_mergeKeys_84 : decode M_MS_mergeKeys.2.1 84 = .ok (.laload, 1) := by decide +kernel
theorem d_MS_mergeKeys_85 : decode M_MS_mergeKeys.2.1 85 = .ok (.goto 6, 3) := by decide +kernel
theorem d_MS_mergeKeys_88 : decode M_MS_mergeKeys.2.1 88 = .ok (.ldc2_w 57, 3) := by decide +kernel
theorem d_MS_mergeKeys_91 : decode M_MS_mergeKeys.2.1 91 = .ok (.lstore 10, 2) := by decide +kernel
theorem d_MS_mergeKeys_93 : decode M_MS_mergeKeys.2.1 93 = .ok (.lload 8, 2) := by decide +kernel
theorem d_MS_mergeKeys_95 : decode M_MS_mergeKeys.2.1 95 = .ok (.lload 10, 2) := by decide +kernel
theorem d_MS_mergeKeys_97 : decode M_MS_mergeKeys.2.1 97 = .ok (.lcmp, 1) := by decide +kernel
theorem d_MS_mergeKeys_98 : decode M_MS_mergeKeys.2.1 98 = .ok (.ifCond .ge 8, 3) := by decide +kernel
theorem d_MS_mergeKeys_101 : decode M_MS_mergeKeys.2.1 101 = .ok (.lload 8, 2) := by decide +kernel
theorem d_MS_mergeKeys_103 : decode M_MS_mergeKeys.2.1 103 = .ok (.goto 5, 3) := by decide +kernel
theorem d_MS_mergeKeys_106 : decode M_MS_mergeKeys.2.1 106 = .ok (.lload 10, 2) := by decide +kernel
theorem d_MS_mergeKeys_108 : decode M_MS_mergeKeys.2.1 108 = .ok (.lstore 12, 2) := by decide +kernel
theorem d_MS_mergeKeys_110 : decode M_MS_mergeKeys.2.1 110 = .ok (.lload 8, 2) := by decide +kernel
theorem d_MS_mergeKeys_112 : decode M_MS_mergeKeys.2.1 112 = .ok (.lload 12, 2) := by decide +kernel
theorem d_MS_mergeKeys_114 : decode M_MS_mergeKeys.2.1 114 = .ok (.lcmp, 1) := by decide +kernel
theorem d_MS_mergeKeys_115 : decode M_MS_mergeKeys.2.1 115 = .ok (.ifCond .ne 7, 3) := by decide +kernel
theorem d_MS_mergeKeys_118 : decode M_MS_mergeKeys.2.1 118 = .ok (.iconst 1, 1) := by decide +kernel
theorem d_MS_mergeKeys_119 : decode M_MS_mergeKeys.2.1 119 = .ok (.goto 4, 3) := by decide +kernel
theorem d_MS_mergeKeys_122 : decode M_MS_mergeKeys.2.1 122 = .ok (.iconst 0, 1) := by decide +kernel
theorem d_MS_mergeKeys_123 : decode M_MS_mergeKeys.2.1 123 = .ok (.lload 10, 2) := by decide +kernel
theorem d_MS_mergeKeys_125 : decode M_MS_mergeKeys.2.1 125 = .ok (.lload 12, 2) := by decide +kernel
theorem d_MS_mergeKeys_127 : decode M_MS_mergeKeys.2.1 127 = .ok (.lcmp, 1) := by decide +kernel
theorem d_MS_mergeKeys_128 : decode M_MS_mergeKeys.2.1 128 = .ok (.ifCond .ne 7, 3) := by decide +kernel
theorem d_MS_mergeKeys_131 : decode M_MS_mergeKeys.2.1 131 = .ok (.iconst 1, 1) := by decide +kernel
theorem d_MS_mergeKeys_132 : decode M_MS_mergeKeys.2.1 132 = .ok (.goto 4, 3) := by decide +kernel
theorem d_MS_mergeKeys_135 : decode M_MS_mergeKeys.2.1 135 = .ok (.iconst 0, 1) := by decide +kernel
theorem d_MS_mergeKeys_136 : decode M_MS_mergeKeys.2.1 136 = .ok (.iload_n 3, 1) := by decide +kernel
theorem d_MS_mergeKeys_137 : decode M_MS_mergeKeys.2.1 137 = .ok (.invokestatic 53, 3) := by decide +kernel
theorem d_MS_mergeKeys_140 : decode M_MS_mergeKeys.2.1 140 = .ok (.ifCond .eq 9, 3) := by decide +kernel
theorem d_MS_mergeKeys_143 : decode M_MS_mergeKeys.2.1 143 = .ok (.aload_n 0, 1) := by decide +kernel
theorem d_MS_mergeKeys_144 : decode M_MS_mergeKeys.2.1 144 = .ok (.lload 12, 2) := by decide +kernel
theorem d_MS_mergeKeys_146 : decode M_MS_mergeKeys.2.1 146 = .ok (.invokevirtual 41, 3) := by decide +kernel
theorem d_MS_mergeKeys_149 : decode M_MS_mergeKeys.2.1 149 = .ok (.lload 8, 2) := by decide +kernel
theorem d_MS_mergeKeys_151 : decode M_MS_mergeKeys.2.1 151 = .ok (.lload 12, 2) := by decide +kernel
theorem d_MS_mergeKeys_153 : decode M_MS_mergeKeys.2.1 153 = .ok (.lcmp, 1) := by decide +kernel
theorem d_MS_mergeKeys_154 : decode M_MS_mergeKeys.2.1 154 = .ok (.ifCond .ne 6, 3) := by decide +kernel
theorem d_MS_mergeKeys_157 : decode M_MS_mergeKeys.2.1 157 = .ok (.iinc 4 1, 3) := by decide +kernel
theorem d_MS_mergeKeys_160 : decode M_MS_mergeKeys.2.1 160 = .ok (.lload 10, 2) := by decide +kernel
theorem d_MS_mergeKeys_162 : decode M_MS_mergeKeys.2.1 162 = .ok (.lload 12, 2) := by decide +kernel
theorem d_MS_mergeKeys_164 : decode M_MS_mergeKeys.2.1 164 = .ok (.lcmp, 1) := by decide +kernel
theorem d_MS_mergeKeys_165 : decode M_MS_mergeKeys.2.1 165 = .ok (.ifCond .ne 6, 3) := by decide +kernel
theorem d_MS_mergeKeys_168 : decode M_MS_mergeKeys.2.1 168 = .ok (.iinc 5 1, 3) := by decide +kernel
theorem d_MS_mergeKeys_171 : decode M_MS_mergeKeys.2.1 171 = .ok (.iinc 7 1, 3) := by decide +kernel
theorem d_MS_mergeKeys_174 : decode M_MS_mergeKeys.2.1 174 = .ok (.goto (-154), 3) := by decide +kernel
theorem d_MS_mergeKeys_177 : decode M_MS_mergeKeys.2.1 177 = .ok (.return_, 1) := by decide +kernel
theorem d_MS_isKept_0 : decode M_MS_isKept.2.1 0 = .ok (.iload_n 2, 1) := by decide +kernel
theorem d_MS_isKept_1 : decode M_MS_isKept.2.1 1 = .ok (.tableswitch 69 0 2 #[27, 41, 55], 27) := by decide +kernel
theorem d_MS_isKept_28 : decode M_MS_isKept.2.1 28 = .ok (.iload_n 0, 1) := by decide +kernel
theorem d_MS_isKept_29 : decode M_MS_isKept.2.1 29 = .ok (.ifCond .ne 7, 3) := by decide +kernel
theorem d_MS_isKept_32 : decode M_MS_isKept.2.1 32 = .ok (.iload_n 1, 1) := by decide +kernel
theorem d_MS_isKept_33 : decode M_MS_isKept.2.1 33 = .ok (.ifCond .eq 7, 3) := by decide +kernel
theorem d_MS_isKept_36 : decode M_MS_isKept.2.1 36 = .ok (.iconst 1, 1) := by decide +kernel
theorem d_MS_isKept_37 : decode M_MS_isKept.2.1 37 = .ok (.goto 4, 3) := by decide +kernel
theorem d_MS_isKept_40 : decode M_MS_isKept.2.1 40 = .ok (.iconst 0, 1) := by decide +kernel
theorem d_MS_isKept_41 : decode M_MS_isKept.2.1 41 = .ok (.ireturn, 1) := by decide +kernel
theorem d_MS_isKept_42 : decode M_MS_isKept.2.1 42 = .ok (.iload_n 0, 1) := by decide +kernel
theorem d_MS_isKept_43 : decode M_MS_isKept.2.1 43 = .ok (.ifCond .eq 11, 3) := by decide +kernel
theorem d_MS_isKept_46 : decode M_MS_isKept.2.1 46 = .ok (.iload_n 1, 1) := by decide +kernel
theorem d_MS_isKept_47 : decode M_MS_isKept.2.1 47 = .ok (.ifCond .eq 7, 3) := by decide +kernel
theorem d_MS_isKept_50 : decode M_MS_isKept.2.1 50 = .ok (.iconst 1, 1) := by decide +kernel
theorem d_MS_isKept_51 : decode M_MS_isKept.2.1 51 = .ok (.goto 4, 3) := by decide +kernel
theorem d_MS_isKept_54 : decode M_MS_isKept.2.1 54 = .ok (.iconst 0, 1) := by decide +kernel
theorem d_MS_isKept_55 : decode M_MS_isKept.2.1 55 = .ok (.ireturn, 1) := by decide +kernel
theorem d_MS_isKept_56 : decode M_MS_isKept.2.1 56 = .ok (.iload_n 0, 1) := by decide +kernel
theorem d_MS_isKept_57 : decode M_MS_isKept.2.1 57 = .ok (.ifCond .eq 11, 3) := by decide +kernel
theorem d_MS_isKept_60 : decode M_MS_isKept.2.1 60 = .ok (.iload_n 1, 1) := by decide +kernel
theorem d_MS_isKept_61 : decode M_MS_isKept.2.1 61 = .ok (.ifCond .ne 7, 3) := by decide +kernel
theorem d_MS_isKept_64 : decode M_MS_isKept.2.1 64 = .ok (.iconst 1, 1) := by decide +kernel
theorem d_MS_isKept_65 : decode M_MS_isKept.2.1 65 = .ok (.goto 4, 3) := by decide +kernel
theorem d_MS_isKept_68 : decode M_MS_isKept.2.1 68 = .ok (.iconst 0, 1) := by decide +kernel
theorem d_MS_isKept_69 : decode M_MS_isKept.2.1 69 = .ok (.ireturn, 1) := by decide +kernel
theorem d_MS_isKept_70 : decode M_MS_isKept.2.1 70 = .ok (.iload_n 0, 1) := by decide +kernel
theorem d_MS_isKept_71 : decode M_MS_isKept.2.1 71 = .ok (.iload_n 1, 1) := by decide +kernel
theorem d_MS_isKept_72 : decode M_MS_isKept.2.1 72 = .ok (.if_icmp .eq 7, 3) := by decide +kernel
theorem d_MS_isKept_75 : decode M_MS_isKept.2.1 75 = .ok (.iconst 1, 1) := by decide +kernel
theorem d_MS_isKept_76 : decode M_MS_isKept.2.1 76 = .ok (.goto 4, 3) := by decide +kernel
theorem d_MS_isKept_79 : decode M_MS_isKept.2.1 79 = .ok (.iconst 0, 1) := by decide +kernel
theorem d_MS_isKept_80 : decode M_MS_isKept.2.1 80 = .ok (.ireturn, 1) := by decide +kernel
theorem d_MS_toggleEdge_0 : decode M_MS_toggleEdge.2.1 0 = .ok (.aload_n 0, 1) := by decide +kernel
theorem d_MS_toggleEdge_1 : decode M_MS_toggleEdge.2.1 1 = .ok (.getfield 21, 3) := by decide +kernel
theorem d_MS_toggleEdge_4 : decode M_MS_toggleEdge.2.1 4 = .ok (.ifCond .le 31, 3) := by decide +kernel
theorem d_MS_toggleEdge_7 : decode M_MS_toggleEdge.2.1 7 = .ok (.aload_n 0, 1) := by decide +kernel
theorem d_MS_toggleEdge_8 : decode M_MS_toggleEdge.2.1 8 = .ok (.getfield 11, 3) := by decide +kernel
theorem d_MS_toggleEdge_11 : decode M_MS_toggleEdge.2.1 11 = .ok (.aload_n 0, 1) := by decide +kernel
theorem d_MS_toggleEdge_12 : decode M_MS_toggleEdge.2.1 12 = .ok (.getfield 21, 3) := by decide +kernel
theorem d_MS_toggleEdge_15 : decode M_MS_toggleEdge.2.1 15 = .ok (.iconst 1, 1) := by decide +kernel
theorem d_MS_toggleEdge_16 : decode M_MS_toggleEdge.2.1 16 = .ok (.isub, 1) := by decide +kernel
theorem d_MS_toggleEdge_17 : decode M_MS_toggleEdge.2.1 17 = .ok (.iaload, 1) := by decide +kernel
theorem d_MS_toggleEdge_18 : decode M_MS_toggleEdge.2.1 18 = .ok (.iload_n 1, 1) := by decide +kernel
theorem d_MS_toggleEdge_19 : decode M_MS_toggleEdge.2.1 19 = .ok (.if_icmp .ne 16, 3) := by decide +kernel
theorem d_MS_toggleEdge_22 : decode M_MS_toggleEdge.2.1 22 = .ok (.aload_n 0, 1) := by decide +kernel
theorem d_MS_toggleEdge_23 : decode M_MS_toggleEdge.2.1 23 = .ok (.dup, 1) := by decide +kernel
theorem d_MS_toggleEdge_24 : decode M_MS_toggleEdge.2.1 24 = .ok (.getfield 21, 3) := by decide +kernel
theorem d_MS_toggleEdge_27 : decode M_MS_toggleEdge.2.1 27 = .ok (.iconst 1, 1) := by decide +kernel
theorem d_MS_toggleEdge_28 : decode M_MS_toggleEdge.2.1 28 = .ok (.isub, 1) := by decide +kernel
theorem d_MS_toggleEdge_29 : decode M_MS_toggleEdge.2.1 29 = .ok (.putfield 21, 3) := by decide +kernel
theorem d_MS_toggleEdge_32 : decode M_MS_toggleEdge.2.1 32 = .ok (.goto 33, 3) := by decide +kernel
theorem d_MS_toggleEdge_35 : decode M_MS_toggleEdge.2.1 35 = .ok (.aload_n 0, 1) := by decide +kernel
theorem d_MS_toggleEdge_36 : decode M_MS_toggleEdge.2.1 36 = .ok (.getfield 21, 3) := by decide +kernel
theorem d_MS_toggleEdge_39 : decode M_MS_toggleEdge.2.1 39 = .ok (.sipush 400, 3) := by decide +kernel
theorem d_MS_toggleEdge_42 : decode M_MS_toggleEdge.2.1 42 = .ok (.if_icmp .ge 23, 3) := by decide +kernel
theorem d_MS_toggleEdge_45 : decode M_MS_toggleEdge.2.1 45 = .ok (.aload_n 0, 1) := by decide +kernel
theorem d_MS_toggleEdge_46 : decode M_MS_toggleEdge.2.1 46 = .ok (.getfield 11, 3) := by decide +kernel
theorem d_MS_toggleEdge_49 : decode M_MS_toggleEdge.2.1 49 = .ok (.aload_n 0, 1) := by decide +kernel
theorem d_MS_toggleEdge_50 : decode M_MS_toggleEdge.2.1 50 = .ok (.getfield 21, 3) := by decide +kernel
theorem d_MS_toggleEdge_53 : decode M_MS_toggleEdge.2.1 53 = .ok (.iload_n 1, 1) := by decide +kernel
theorem d_MS_toggleEdge_54 : decode M_MS_toggleEdge.2.1 54 = .ok (.iastore, 1) := by decide +kernel
theorem d_MS_toggleEdge_55 : decode M_MS_toggleEdge.2.1 55 = .ok (.aload_n 0, 1) := by decide +kernel
theorem d_MS_toggleEdge_56 : decode M_MS_toggleEdge.2.1 56 = .ok (.dup, 1) := by decide +kernel
theorem d_MS_toggleEdge_57 : decode M_MS_toggleEdge.2.1 57 = .ok (.getfield 21, 3) := by decide +kernel
theorem d_MS_toggleEdge_60 : decode M_MS_toggleEdge.2.1 60 = .ok (.iconst 1, 1) := by decide +kernel
theorem d_MS_toggleEdge_61 : decode M_MS_toggleEdge.2.1 61 = .ok (.iadd, 1) := by decide +kernel
theorem d_MS_toggleEdge_62 : decode M_MS_toggleEdge.2.1 62 = .ok (.putfield 21, 3) := by decide +kernel
theorem d_MS_toggleEdge_65 : decode M_MS_toggleEdge.2.1 65 = .ok (.return_, 1) := by decide +kernel
theorem d_MS_appendKey_0 : decode M_MS_appendKey.2.1 0 = .ok (.aload_n 0, 1) := by decide +kernel
theorem d_MS_appendKey_1 : decode M_MS_appendKey.2.1 1 = .ok (.getfield 25, 3) := by decide +kernel
theorem d_MS_appendKey_4 : decode M_MS_appendKey.2.1 4 = .ok (.bipush 16, 2) := by decide +kernel
theorem d_MS_appendKey_6 : decode M_MS_appendKey.2.1 6 = .ok (.if_icmp .ge 23, 3) := by decide +kernel
theorem d_MS_appendKey_9 : decode M_MS_appendKey.2.1 9 = .ok (.aload_n 0, 1) := by decide +kernel
theorem d_MS_appendKey_10 : decode M_MS_appendKey.2.1 10 = .ok (.getfield 15, 3) := by decide +kernel
theorem d_MS_appendKey_13 : decode M_MS_appendKey.2.1 13 = .ok (.aload_n 0, 1) := by decide +kernel
theorem d_MS_appendKey_14 : decode M_MS_appendKey.2.1 14 = .ok (.getfield 25, 3) := by decide +kernel
theorem d_MS_appendKey_17 : decode M_MS_appendKey.2.1 17 = .ok (.lload_n 1, 1) := by decide +kernel
theorem d_MS_appendKey_18 : decode M_MS_appendKey.2.1 18 = .ok (.lastore, 1) := by decide +kernel
theorem d_MS_appendKey_19 : decode M_MS_appendKey.2.1 19 = .ok (.aload_n 0, 1) := by decide +kernel
theorem d_MS_appendKey_20 : decode M_MS_appendKey.2.1 20 = .ok (.dup, 1) := by decide +kernel
theorem d_MS_appendKey_21 : decode M_MS_appendKey.2.1 21 = .ok (.getfield 25, 3) := by decide +kernel
theorem d_MS_appendKey_24 : decode M_MS_appendKey.2.1 24 = .ok (.iconst 1, 1) := by decide +kernel
theorem d_MS_appendKey_25 : decode M_MS_appendKey.2.1 25 = .ok (.iadd, 1) := by decide +kernel
theorem d_MS_appendKey_26 : decode M_MS_appendKey.2.1 26 = .ok (.putfield 25, 3) := by decide +kernel
theorem d_MS_appendKey_29 : decode M_MS_appendKey.2.1 29 = .ok (.return_, 1) := by decide +kernel
theorem d_MS_holdsCode_0 : decode M_MS_holdsCode.2.1 0 = .ok (.iconst 0, 1) := by decide +kernel
theorem d_MS_holdsCode_1 : decode M_MS_holdsCode.2.1 1 = .ok (.istore_n 2, 1) := by decide +kernel
theorem d_MS_holdsCode_2 : decode M_MS_holdsCode.2.1 2 = .ok (.aload_n 0, 1) := by decide +kernel
theorem d_MS_holdsCode_3 : decode M_MS_holdsCode.2.1 3 = .ok (.getfield 21, 3) := by decide +kernel
theorem d_MS_holdsCode_6 : decode M_MS_holdsCode.2.1 6 = .ok (.istore_n 3, 1) := by decide +kernel
theorem d_MS_holdsCode_7 : decode M_MS_holdsCode.2.1 7 = .ok (.iconst 0, 1) := by decide +kernel
theorem d_MS_holdsCode_8 : decode M_MS_holdsCode.2.1 8 = .ok (.istore 4, 2) := by decide +kernel
theorem d_MS_holdsCode_10 : decode M_MS_holdsCode.2.1 10 = .ok (.iload 4, 2) := by decide +kernel
theorem d_MS_holdsCode_12 : decode M_MS_holdsCode.2.1 12 = .ok (.sipush 400, 3) := by decide +kernel
theorem d_MS_holdsCode_15 : decode M_MS_holdsCode.2.1 15 = .ok (.if_icmp .ge 43, 3) := by decide +kernel
theorem d_MS_holdsCode_18 : decode M_MS_holdsCode.2.1 18 = .ok (.iload_n 2, 1) := by decide +kernel
theorem d_MS_holdsCode_19 : decode M_MS_holdsCode.2.1 19 = .ok (.iload_n 3, 1) := by decide +kernel
theorem d_MS_holdsCode_20 : decode M_MS_holdsCode.2.1 20 = .ok (.if_icmp .ge 38, 3) := by decide +kernel
theorem d_MS_holdsCode_23 : decode M_MS_holdsCode.2.1 23 = .ok (.iload_n 2, 1) := by decide +kernel
theorem d_MS_holdsCode_24 : decode M_MS_holdsCode.2.1 24 = .ok (.iload_n 3, 1) := by decide +kernel
theorem d_MS_holdsCode_25 : decode M_MS_holdsCode.2.1 25 = .ok (.iadd, 1) := by decide +kernel
theorem d_MS_holdsCode_26 : decode M_MS_holdsCode.2.1 26 = .ok (.iconst 2, 1) := by decide +kernel
theorem d_MS_holdsCode_27 : decode M_MS_holdsCode.2.1 27 = .ok (.idiv, 1) := by decide +kernel
theorem d_MS_holdsCode_28 : decode M_MS_holdsCode.2.1 28 = .ok (.istore 5, 2) := by decide +kernel
theorem d_MS_holdsCode_30 : decode M_MS_holdsCode.2.1 30 = .ok (.aload_n 0, 1) := by decide +kernel
theorem d_MS_holdsCode_31 : decode M_MS_holdsCode.2.1 31 = .ok (.getfield 11, 3) := by decide +kernel
theorem d_MS_holdsCode_34 : decode M_MS_holdsCode.2.1 34 = .ok (.iload 5, 2) := by decide +kernel
theorem d_MS_holdsCode_36 : decode M_MS_holdsCode.2.1 36 = .ok (.iaload, 1) := by decide +kernel
theorem d_MS_holdsCode_37 : decode M_MS_holdsCode.2.1 37 = .ok (.iload_n 1, 1) := by decide +kernel
theorem d_MS_holdsCode_38 : decode M_MS_holdsCode.2.1 38 = .ok (.if_icmp .gt 11, 3) := by decide +kernel
theorem d_MS_holdsCode_41 : decode M_MS_holdsCode.2.1 41 = .ok (.iload 5, 2) := by decide +kernel
theorem d_MS_holdsCode_43 : decode M_MS_holdsCode.2.1 43 = .ok (.iconst 1, 1) := by decide +kernel
theorem d_MS_holdsCode_44 : decode M_MS_holdsCode.2.1 44 = .ok (.iadd, 1) := by decide +kernel
theorem d_MS_holdsCode_45 : decode M_MS_holdsCode.2.1 45 = .ok (.istore_n 2, 1) := by decide +kernel
theorem d_MS_holdsCode_46 : decode M_MS_holdsCode.2.1 46 = .ok (.goto 6, 3) := by decide +kernel
theorem d_MS_holdsCode_49 : decode M_MS_holdsCode.2.1 49 = .ok (.iload 5, 2) := by decide +kernel
theorem d_MS_holdsCode_51 : decode M_MS_holdsCode.2.1 51 = .ok (.istore_n 3, 1) := by decide +kernel
theorem d_MS_holdsCode_52 : decode M_MS_holdsCode.2.1 52 = .ok (.iinc 4 1, 3) := by decide +kernel
theorem d_MS_holdsCode_55 : decode M_MS_holdsCode.2.1 55 = .ok (.goto (-45), 3) := by decide +kernel
theorem d_MS_holdsCode_58 : decode M_MS_holdsCode.2.1 58 = .ok (.iload_n 2, 1) := by decide +kernel
theorem d_MS_holdsCode_59 : decode M_MS_holdsCode.2.1 59 = .ok (.iconst 1, 1) := by decide +kernel
theorem d_MS_holdsCode_60 : decode M_MS_holdsCode.2.1 60 = .ok (.iand, 1) := by decide +kernel
theorem d_MS_holdsCode_61 : decode M_MS_holdsCode.2.1 61 = .ok (.iconst 1, 1) := by decide +kernel
theorem d_MS_holdsCode_62 : decode M_MS_holdsCode.2.1 62 = .ok (.if_icmp .ne 7, 3) := by decide +kernel
theorem d_MS_holdsCode_65 : decode M_MS_holdsCode.2.1 65 = .ok (.iconst 1, 1) := by decide +kernel
theorem d_MS_holdsCode_66 : decode M_MS_holdsCode.2.1 66 = .ok (.goto 4, 3) := by decide +kernel
theorem d_MS_holdsCode_69 : decode M_MS_holdsCode.2.1 69 = .ok (.iconst 0, 1) := by decide +kernel
theorem d_MS_holdsCode_70 : decode M_MS_holdsCode.2.1 70 = .ok (.ireturn, 1) := by decide +kernel
theorem d_MS_holdsString_0 : decode M_MS_holdsString.2.1 0 = .ok (.iconst 0, 1) := by decide +kernel
theorem d_MS_holdsString_1 : decode M_MS_holdsString.2.1 1 = .ok (.istore_n 3, 1) := by decide +kernel
theorem d_MS_holdsString_2 : decode M_MS_holdsString.2.1 2 = .ok (.iload_n 3, 1) := by decide +kernel
theorem d_MS_holdsString_3 : decode M_MS_holdsString.2.1 3 = .ok (.aload_n 0, 1) := by decide +kernel
theorem d_MS_holdsString_4 : decode M_MS_holdsString.2.1 4 = .ok (.getfield 25, 3) := by decide +kernel
theorem d_MS_holdsString_7 : decode M_MS_holdsString.2.1 7 = .ok (.if_icmp .ge 22, 3) := by decide +kernel
theorem d_MS_holdsString_10 : decode M_MS_holdsString.2.1 10 = .ok (.aload_n 0, 1) := by decide +kernel
theorem d_MS_holdsString_11 : decode M_MS_holdsString.2.1 11 = .ok (.getfield 15, 3) := by decide +kernel
theorem d_MS_holdsString_14 : decode M_MS_holdsString.2.1 14 = .ok (.iload_n 3, 1) := by decide +kernel
theorem d_MS_holdsString_15 : decode M_MS_holdsString.2.1 15 = .ok (.laload, 1) := by decide +kernel
theorem d_MS_holdsString_16 : decode M_MS_holdsString.2.1 16 = .ok (.lload_n 1, 1) := by decide +kernel
theorem d_MS_holdsString_17 : decode M_MS_holdsString.2.1 17 = .ok (.lcmp, 1) := by decide +kernel
theorem d_MS_holdsString_18 : decode M_MS_holdsString.2.1 18 = .ok (.ifCond .ne 5, 3) := by decide +kernel
theorem d_MS_holdsString_21 : decode M_MS_holdsString.2.1 21 = .ok (.iconst 1, 1) := by decide +kernel
theorem d_MS_holdsString_22 : decode M_MS_holdsString.2.1 22 = .ok (.ireturn, 1) := by decide +kernel
theorem d_MS_holdsString_23 : decode M_MS_holdsString.2.1 23 = .ok (.iinc 3 1, 3) := by decide +kernel
theorem d_MS_holdsString_26 : decode M_MS_holdsString.2.1 26 = .ok (.goto (-24), 3) := by decide +kernel
theorem d_MS_holdsString_29 : decode M_MS_holdsString.2.1 29 = .ok (.iconst 0, 1) := by decide +kernel
theorem d_MS_holdsString_30 : decode M_MS_holdsString.2.1 30 = .ok (.ireturn, 1) := by decide +kernel
theorem d_MS_codeCount_0 : decode M_MS_codeCount.2.1 0 = .ok (.iconst 0, 1) := by decide +kernel
theorem d_MS_codeCount_1 : decode M_MS_codeCount.2.1 1 = .ok (.istore_n 1, 1) := by decide +kernel
theorem d_MS_codeCount_2 : decode M_MS_codeCount.2.1 2 = .ok (.iconst 0, 1) := by decide +kernel
theorem d_MS_codeCount_3 : decode M_MS_codeCount.2.1 3 = .ok (.istore_n 2, 1) := by decide +kernel
theorem d_MS_codeCount_4 : decode M_MS_codeCount.2.1 4 = .ok (.iload_n 2, 1) := by decide +kernel
theorem d_MS_codeCount_5 : decode M_MS_codeCount.2.1 5 = .ok (.iconst 1, 1) := by decide +kernel
theorem d_MS_codeCount_6 : decode M_MS_codeCount.2.1 6 = .ok (.iadd, 1) := by decide +kernel
theorem d_MS_codeCount_7 : decode M_MS_codeCount.2.1 7 = .ok (.aload_n 0, 1) := by decide +kernel
theorem d_MS_codeCount_8 : decode M_MS_codeCount.2.1 8 = .ok (.getfield 21, 3) := by decide +kernel
theorem d_MS_codeCount_11 : decode M_MS_codeCount.2.1 11 = .ok (.if_icmp .ge 27, 3) := by decide +kernel
theorem d_MS_codeCount_14 : decode M_MS_codeCount.2.1 14 = .ok (.iload_n 1, 1) := by decide +kernel
theorem d_MS_codeCount_15 : decode M_MS_codeCount.2.1 15 = .ok (.aload_n 0, 1) := by decide +kernel
theorem d_MS_codeCount_16 : decode M_MS_codeCount.2.1 16 = .ok (.getfield 11, 3) := by decide +kernel
theorem d_MS_codeCount_19 : decode M_MS_codeCount.2.1 19 = .ok (.iload_n 2, 1) := by decide +kernel
theorem d_MS_codeCount_20 : decode M_MS_codeCount.2.1 20 = .ok (.iconst 1, 1) := by decide +kernel
theorem d_MS_codeCount_21 : decode M_MS_codeCount.2.1 21 = .ok (.iadd, 1) := by decide +kernel
theorem d_MS_codeCount_22 : decode M_MS_codeCount.2.1 22 = .ok (.iaload, 1) := by decide +kernel
theorem d_MS_codeCount_23 : decode M_MS_codeCount.2.1 23 = .ok (.aload_n 0, 1) := by decide +kernel
theorem d_MS_codeCount_24 : decode M_MS_codeCount.2.1 24 = .ok (.getfield 11, 3) := by decide +kernel
theorem d_MS_codeCount_27 : decode M_MS_codeCount.2.1 27 = .ok (.iload_n 2, 1) := by decide +kernel
theorem d_MS_codeCount_28 : decode M_MS_codeCount.2.1 28 = .ok (.iaload, 1) := by decide +kernel
theorem d_MS_codeCount_29 : decode M_MS_codeCount.2.1 29 = .ok (.isub, 1) := by decide +kernel
theorem d_MS_codeCount_30 : decode M_MS_codeCount.2.1 30 = .ok (.iadd, 1) := by decide +kernel
theorem d_MS_codeCount_31 : decode M_MS_codeCount.2.1 31 = .ok (.istore_n 1, 1) := by decide +kernel
theorem d_MS_codeCount_32 : decode M_MS_codeCount.2.1 32 = .ok (.iinc 2 2, 3) := by decide +kernel
theorem d_MS_codeCount_35 : decode M_MS_codeCount.2.1 35 = .ok (.goto (-31), 3) := by decide +kernel
theorem d_MS_codeCount_38 : decode M_MS_codeCount.2.1 38 = .ok (.iload_n 1, 1) := by decide +kernel
theorem d_MS_codeCount_39 : decode M_MS_codeCount.2.1 39 = .ok (.ireturn, 1) := by decide +kernel
theorem d_MS_codeOfRank_0 : decode M_MS_codeOfRank.2.1 0 = .ok (.iload_n 1, 1) := by decide +kernel
theorem d_MS_codeOfRank_1 : decode M_MS_codeOfRank.2.1 1 = .ok (.istore_n 2, 1) := by decide +kernel
theorem d_MS_codeOfRank_2 : decode M_MS_codeOfRank.2.1 2 = .ok (.iconst 0, 1) := by decide +kernel
theorem d_MS_codeOfRank_3 : decode M_MS_codeOfRank.2.1 3 = .ok (.istore_n 3, 1) := by decide +kernel
theorem d_MS_codeOfRank_4 : decode M_MS_codeOfRank.2.1 4 = .ok (.iload_n 3, 1) := by decide +kernel
theorem d_MS_codeOfRank_5 : decode M_MS_codeOfRank.2.1 5 = .ok (.iconst 1, 1) := by decide +kernel
theorem d_MS_codeOfRank_6 : decode M_MS_codeOfRank.2.1 6 = .ok (.iadd, 1) := by decide +kernel
theorem d_MS_codeOfRank_7 : decode M_MS_codeOfRank.2.1 7 = .ok (.aload_n 0, 1) := by decide +kernel
theorem d_MS_codeOfRank_8 : decode M_MS_codeOfRank.2.1 8 = .ok (.getfield 21, 3) := by decide +kernel
theorem d_MS_codeOfRank_11 : decode M_MS_codeOfRank.2.1 11 = .ok (.if_icmp .ge 46, 3) := by decide +kernel
theorem d_MS_codeOfRank_14 : decode M_MS_codeOfRank.2.1 14 = .ok (.aload_n 0, 1) := by decide +kernel
theorem d_MS_codeOfRank_15 : decode M_MS_codeOfRank.2.1 15 = .ok (.getfield 11, 3) := by decide +kernel
theorem d_MS_codeOfRank_18 : decode M_MS_codeOfRank.2.1 18 = .ok (.iload_n 3, 1) := by decide +kernel
theorem d_MS_codeOfRank_19 : decode M_MS_codeOfRank.2.1 19 = .ok (.iconst 1, 1) := by decide +kernel
theorem d_MS_codeOfRank_20 : decode M_MS_codeOfRank.2.1 20 = .ok (.iadd, 1) := by decide +kernel
theorem d_MS_codeOfRank_21 : decode M_MS_codeOfRank.2.1 21 = .ok (.iaload, 1) := by decide +kernel
theorem d_MS_codeOfRank_22 : decode M_MS_codeOfRank.2.1 22 = .ok (.aload_n 0, 1) := by decide +kernel
theorem d_MS_codeOfRank_23 : decode M_MS_codeOfRank.2.1 23 = .ok (.getfield 11, 3) := by decide +kernel
theorem d_MS_codeOfRank_26 : decode M_MS_codeOfRank.2.1 26 = .ok (.iload_n 3, 1) := by decide +kernel
theorem d_MS_codeOfRank_27 : decode M_MS_codeOfRank.2.1 27 = .ok (.iaload, 1) := by decide +kernel
theorem d_MS_codeOfRank_28 : decode M_MS_codeOfRank.2.1 28 = .ok (.isub, 1) := by decide +kernel
theorem d_MS_codeOfRank_29 : decode M_MS_codeOfRank.2.1 29 = .ok (.istore 4, 2) := by decide +kernel
theorem d_MS_codeOfRank_31 : decode M_MS_codeOfRank.2.1 31 = .ok (.iload_n 2, 1) := by decide +kernel
theorem d_MS_codeOfRank_32 : decode M_MS_codeOfRank.2.1 32 = .ok (.iload 4, 2) := by decide +kernel
theorem d_MS_codeOfRank_34 : decode M_MS_codeOfRank.2.1 34 = .ok (.if_icmp .ge 12, 3) := by decide +kernel
theorem d_MS_codeOfRank_37 : decode M_MS_codeOfRank.2.1 37 = .ok (.aload_n 0, 1) := by decide +kernel
theorem d_MS_codeOfRank_38 : decode M_MS_codeOfRank.2.1 38 = .ok (.getfield 11, 3) := by decide +kernel
theorem d_MS_codeOfRank_41 : decode M_MS_codeOfRank.2.1 41 = .ok (.iload_n 3, 1) := by decide +kernel
theorem d_MS_codeOfRank_42 : decode M_MS_codeOfRank.2.1 42 = .ok (.iaload, 1) := by decide +kernel
theorem d_MS_codeOfRank_43 : decode M_MS_codeOfRank.2.1 43 = .ok (.iload_n 2, 1) := by decide +kernel
theorem d_MS_codeOfRank_44 : decode M_MS_codeOfRank.2.1 44 = .ok (.iadd, 1) := by decide +kernel
theorem d_MS_codeOfRank_45 : decode M_MS_codeOfRank.2.1 45 = .ok (.ireturn, 1) := by decide +kernel
theorem d_MS_codeOfRank_46 : decode M_MS_codeOfRank.2.1 46 = .ok (.iload_n 2, 1) := by decide +kernel
theorem d_MS_codeOfRank_47 : decode M_MS_codeOfRank.2.1 47 = .ok (.iload 4, 2) := by decide +kernel
theorem d_MS_codeOfRank_49 : decode M_MS_codeOfRank.2.1 49 = .ok (.isub, 1) := by decide +kernel
theorem d_MS_codeOfRank_50 : decode M_MS_codeOfRank.2.1 50 = .ok (.istore_n 2, 1) := by decide +kernel
theorem d_MS_codeOfRank_51 : decode M_MS_codeOfRank.2.1 51 = .ok (.iinc 3 2, 3) := by decide +kernel
theorem d_MS_codeOfRank_54 : decode M_MS_codeOfRank.2.1 54 = .ok (.goto (-50), 3) := by decide +kernel
theorem d_MS_codeOfRank_57 : decode M_MS_codeOfRank.2.1 57 = .ok (.iconst (-1), 1) := by decide +kernel
theorem d_MS_codeOfRank_58 : decode M_MS_codeOfRank.2.1 58 = .ok (.ireturn, 1) := by decide +kernel
end
section
/-! CodeRow: written by wip/gen/cr.py -/
/-- the heap is as it was but for n places from p on -/
def wOff (h h' : wH) (p n : Nat) : Prop := ∀ k, (k < p ∨ p + n ≤ k) → h'[k]? = h[k]?
theorem wOff.rf {h : wH} {p n : Nat} : wOff h h p n := fun _ _ => rfl
theorem wOff.tr {h h' h'' : wH} {p n : Nat} (a : wOff h h' p n) (b : wOff h' h'' p n) : wOff h h'' p n := fun k hk => (b k hk).trans (a k hk)
/-- a row of numbers t at place p -/
def hCR (h : wH) (p : Nat) (t : List Nat) : Prop := ∃ f : Nat → Int32, h[p]? = some (.inr (0, [.ref (p + 1), .int (nI t.length)])) ∧ h[p + 1]? = some (.inl (0, 60, .inl f)) ∧ t.length ≤ 60 ∧ ∀ i x, t[i]? = some x → f i = nI x
theorem hCR.off {h h' : wH} {p q n : Nat} {t : List Nat} (a : hCR h p t) (b : wOff h h' q n) (hd : p + 2 ≤ q ∨ q + n ≤ p) : hCR h' p t := by
  obtain ⟨f, h1, h2, h3⟩ := a
  exact ⟨f, by rw [b p (by omega)]; exact h1, by rw [b (p + 1) (by omega)]; exact h2, h3⟩
theorem upd_at {f : Nat → Int32} {t : List Nat} {x : Nat} (hf : ∀ i y, t[i]? = some y → f i = nI y) : ∀ i y, (t ++ [x])[i]? = some y → upd f t.length (nI x) i = nI y := by
  intro i y hy
  by_cases hi : i < t.length
  · rw [List.getElem?_append_left hi] at hy
    rw [pk_un (by omega)]
    exact hf i y hy
  · rw [List.getElem?_append_right (by omega)] at hy
    have h9 : i - t.length < 1 := (List.getElem?_eq_some_iff.mp hy).1
    have h8 : i = t.length := by omega
    subst h8
    rw [Nat.sub_self] at hy
    cases hy
    exact pk_us
section CR
variable {X : wX}
set_option maxHeartbeats 4000000 in
set_option maxRecDepth 100000 in
theorem m_CR_append {h : wH} {p x : Nat} {t : List Nat} (hc : hCR h p t) : PM X M_CR_append 0 0 0 [.ref p, .int (nI x)] h (fun r h' => r = some (.int (nI (if t.length < 60 then 1 else 0))) ∧ hCR h' p (if t.length < 60 then t ++ [x] else t) ∧ wOff h h' p 2) := by
  obtain ⟨f, hp, ha, hl, hf⟩ := hc
  refine PM.of rfl rfl ?_
  show WP _ _ _ _ _ 0 0 0 [some (.ref p), some (.int (nI x))] [] h
  refine w_aload_n d_CR_append_0 rfl rfl ?_
  refine w_get d_CR_append_1 f_CR_15 hp rfl ?_
  refine w_bipush (v := nI 60) d_CR_append_4 (by decide) ?_
  refine w_icmp_lt (tgt := 11) d_CR_append_6 rfl (fun c6 => ?_) (fun c6 => ?_)
  · have c6 : t.length < 60 := (nI_ltI (by omega) (by omega)).mp c6
    refine w_aload_n d_CR_append_11 rfl rfl ?_
    refine w_get d_CR_append_12 f_CR_9 hp rfl ?_
    refine w_aload_n d_CR_append_15 rfl rfl ?_
    refine w_get d_CR_append_16 f_CR_15 hp rfl ?_
    refine w_iload_n d_CR_append_19 rfl ?_
    refine w_iast d_CR_append_20 ha (vp_in_nI c6 (by omega)) ?_
    refine w_nm (fun h1 e1 => ?_)
    have hp_1 := wS_ne e1 (by omega) hp
    have ha_1 := wS_eq e1 ha
    refine w_aload_n d_CR_append_21 rfl rfl ?_
    refine w_dup d_CR_append_22 rfl ?_
    refine w_get d_CR_append_23 f_CR_15 hp_1 rfl ?_
    refine w_iconst (v := nI 1) d_CR_append_26 (by decide) ?_
    refine w_iadd d_CR_append_27 ?_
    refine w_topi (nI_add _ _) ?_
    refine w_put d_CR_append_28 f_CR_15 rfl hp_1 rfl rfl rfl ?_
    refine w_nm (fun h2 e2 => ?_)
    have hp_2 := wS_eq e2 hp_1
    have ha_2 := wS_ne e2 (by omega) ha_1
    refine w_iconst (v := nI 1) d_CR_append_31 (by decide) ?_
    refine w_zret d_CR_append_32 rfl (by first | exact Or.inl rfl | exact Or.inr rfl) ?_
    rw [if_pos c6, if_pos c6]
    refine ⟨rfl, ⟨_, ?_, ha_2, by rw [List.length_append, List.length_singleton]; omega, ?_⟩, fun k hk => ?_⟩
    · rw [List.length_append, List.length_singleton]
      exact hp_2
    · rw [nI_clamp (by omega)]
      exact upd_at hf
    · rw [wS_off e2 (by omega), wS_off e1 (by omega)]
  · have c6 : ¬ t.length < 60 := fun z => c6 ((nI_ltI (by omega) (by omega)).mpr z)
    refine w_iconst (v := nI 0) d_CR_append_9 (by decide) ?_
    refine w_zret d_CR_append_10 rfl (by first | exact Or.inl rfl | exact Or.inr rfl) ?_
    rw [if_neg c6, if_neg c6]
    exact ⟨rfl, ⟨f, hp, ha, hl, hf⟩, wOff.rf⟩
set_option maxHeartbeats 4000000 in
set_option maxRecDepth 100000 in
theorem m_CR_clear {h : wH} {p : Nat} {t : List Nat} (hc : hCR h p t) : PM X M_CR_clear 0 0 0 [.ref p] h (fun r h' => r = none ∧ hCR h' p [] ∧ wOff h h' p 2) := by
  obtain ⟨f, hp, ha, hl, hf⟩ := hc
  refine PM.of rfl rfl ?_
  show WP _ _ _ _ _ 0 0 0 [some (.ref p)] [] h
  refine w_aload_n d_CR_clear_0 rfl rfl ?_
  refine w_iconst (v := nI 0) d_CR_clear_1 (by decide) ?_
  refine w_put d_CR_clear_2 f_CR_15 rfl hp rfl rfl rfl ?_
  refine w_nm (fun h1 e1 => ?_)
  have hp_1 := wS_eq e1 hp
  have ha_1 := wS_ne e1 (by omega) ha
  refine w_vret d_CR_clear_5 rfl ?_
  refine ⟨rfl, ⟨f, hp_1, ha_1, Nat.zero_le _, fun i x hx => by simp at hx⟩, fun k hk => ?_⟩
  rw [wS_off e1 (by omega)]
set_option maxHeartbeats 4000000 in
set_option maxRecDepth 100000 in
theorem m_CR_codeAt {h : wH} {p : Nat} {t : List Nat} {k : Int32} (hc : hCR h p t) : PM X M_CR_codeAt 0 0 0 [.ref p, .int k] h (fun r h' => r = some (.int (if k < 0 then -1 else match t[k.toNatClampNeg]? with | some x => nI x | none => -1)) ∧ h' = h) := by
  obtain ⟨f, hp, ha, hl, hf⟩ := hc
  refine PM.of rfl rfl ?_
  show WP _ _ _ _ _ 0 0 0 [some (.ref p), some (.int k)] [] h
  refine w_iload_n d_CR_codeAt_0 rfl ?_
  refine w_if_lt (tgt := 21) d_CR_codeAt_1 rfl (fun c1 => ?_) (fun c1 => ?_)
  · refine w_iconst (v := -1) d_CR_codeAt_21 (by decide) ?_
    refine w_iret d_CR_codeAt_22 rfl ?_
    first
      | (rw [if_pos c1]; exact ⟨rfl, rfl⟩)
      | (rw [if_neg c1, nI_clamp hj, List.getElem?_eq_none c9]; exact ⟨rfl, rfl⟩)
      | (rw [if_neg c1, nI_clamp hj, List.getElem?_eq_getElem c9, hf j _ (List.getElem?_eq_getElem c9)]; exact ⟨rfl, rfl⟩)
  · obtain ⟨j, hj, rfl⟩ := nI_of c1
    refine w_iload_n d_CR_codeAt_4 rfl ?_
    refine w_aload_n d_CR_codeAt_5 rfl rfl ?_
    refine w_get d_CR_codeAt_6 f_CR_15 hp rfl ?_
    refine w_icmp_ge (tgt := 21) d_CR_codeAt_9 rfl (fun c9 => ?_) (fun c9 => ?_)
    · have c9 : t.length ≤ j := (nI_leI (by omega) (by omega)).mp c9
      refine w_iconst (v := -1) d_CR_codeAt_21 (by decide) ?_
      refine w_iret d_CR_codeAt_22 rfl ?_
      first
        | (rw [if_pos c1]; exact ⟨rfl, rfl⟩)
        | (rw [if_neg c1, nI_clamp hj, List.getElem?_eq_none c9]; exact ⟨rfl, rfl⟩)
        | (rw [if_neg c1, nI_clamp hj, List.getElem?_eq_getElem c9, hf j _ (List.getElem?_eq_getElem c9)]; exact ⟨rfl, rfl⟩)
    · have c9 : j < t.length := Nat.not_le.mp (fun z => c9 ((nI_leI (by omega) (by omega)).mpr z))
      refine w_aload_n d_CR_codeAt_12 rfl rfl ?_
      refine w_get d_CR_codeAt_13 f_CR_9 hp rfl ?_
      refine w_iload_n d_CR_codeAt_16 rfl ?_
      refine w_iald d_CR_codeAt_17 ha (vp_in_nI (by omega) (by omega)) ?_
      refine w_goto (tgt := 22) d_CR_codeAt_18 rfl ?_
      refine w_iret d_CR_codeAt_22 rfl ?_
      first
        | (rw [if_pos c1]; exact ⟨rfl, rfl⟩)
        | (rw [if_neg c1, nI_clamp hj, List.getElem?_eq_none c9]; exact ⟨rfl, rfl⟩)
        | (rw [if_neg c1, nI_clamp hj, List.getElem?_eq_getElem c9, hf j _ (List.getElem?_eq_getElem c9)]; exact ⟨rfl, rfl⟩)
set_option maxHeartbeats 4000000 in
set_option maxRecDepth 100000 in
theorem m_CR_become {h : wH} {p q : Nat} {t t0 : List Nat} (hc0 : hCR h p t0) (hc : hCR h q t) (hd : p + 2 ≤ q ∨ q + 2 ≤ p) : PM X M_CR_become 1 0 0 [.ref p, .ref q] h (fun r h' => r = none ∧ hCR h' p t ∧ wOff h h' p 2) := by
  obtain ⟨f, hp, ha, hl, hf⟩ := hc0
  obtain ⟨g, gp, ga, gl, gf⟩ := hc
  refine PM.of rfl rfl ?_
  show WP _ _ _ _ _ 0 0 0 [some (.ref p), some (.ref q)] [] h
  refine w_aload_n d_CR_become_0 rfl rfl ?_
  refine w_get d_CR_become_1 f_CR_9 gp rfl ?_
  refine w_iconst (v := nI 0) d_CR_become_4 (by decide) ?_
  refine w_aload_n d_CR_become_5 rfl rfl ?_
  refine w_get d_CR_become_6 f_CR_9 hp rfl ?_
  refine w_iconst (v := nI 0) d_CR_become_9 (by decide) ?_
  refine w_aload_n d_CR_become_10 rfl rfl ?_
  refine w_get d_CR_become_11 f_CR_15 gp rfl ?_
  refine w_copyI d_CR_become_14 a_CR_19 aCopy1 aCopy2 aCopy3 ga ha (nI_pos (by omega)) (nI_pos (by omega)) (nI_pos (by omega)) (by rw [nI_clamp (by omega), nI_clamp (by omega)]; omega) (by rw [nI_clamp (by omega), nI_clamp (by omega)]; omega) (by decide) (by decide) (by decide) ?_
  refine w_nm (fun h1 e1 => ?_)
  have hp_1 := wS_ne e1 (by omega) hp
  have ha_1 := wS_eq e1 ha
  have gp_1 := wS_ne e1 (by omega) gp
  have ga_1 := wS_ne e1 (by omega) ga
  refine w_aload_n d_CR_become_17 rfl rfl ?_
  refine w_aload_n d_CR_become_18 rfl rfl ?_
  refine w_get d_CR_become_19 f_CR_15 gp_1 rfl ?_
  refine w_put d_CR_become_22 f_CR_15 rfl hp_1 rfl rfl rfl ?_
  refine w_nm (fun h2 e2 => ?_)
  have hp_2 := wS_eq e2 hp_1
  have ha_2 := wS_ne e2 (by omega) ha_1
  have gp_2 := wS_ne e2 (by omega) gp_1
  have ga_2 := wS_ne e2 (by omega) ga_1
  refine w_vret d_CR_become_25 rfl ?_
  refine ⟨rfl, ⟨_, hp_2, ha_2, gl, fun i x hx => ?_⟩, fun k hk => ?_⟩
  · rw [nI_clamp (by omega), nI_clamp (by omega), pk_cpy_in (Nat.zero_le _) (by have := (List.getElem?_eq_some_iff.mp hx).1; omega), Nat.zero_add, Nat.sub_zero]
    exact gf i x hx
  · rw [wS_off e2 (by omega), wS_off e1 (by omega)]
end CR
end
section
/-! MemberSet, one: written by wip/gen/ms1.py -/
/-- a set at place p: its edges E, the keys S of its strings -/
def hMS (h : wH) (p : Nat) (E S : List Nat) : Prop := ∃ (f : Nat → Int32) (k : Nat → Int64), h[p]? = some (.inr (1, [.ref (p + 1), .int (nI E.length), .ref (p + 2), .int (nI S.length)])) ∧ h[p + 1]? = some (.inl (0, 400, .inl f)) ∧ h[p + 2]? = some (.inl (1, 16, .inr (.inl k))) ∧ E.length ≤ 400 ∧ S.length ≤ 16 ∧ (∀ i x, E[i]? = some x → f i = nI x) ∧ ∀ i x, S[i]? = some x → k i = lN x
theorem hMS.off {h h' : wH} {p q n : Nat} {E S : List Nat} (a : hMS h p E S) (b : wOff h h' q n) (hd : p + 3 ≤ q ∨ q + n ≤ p) : hMS h' p E S := by
  obtain ⟨f, k, h1, h2, h3, h4⟩ := a
  exact ⟨f, k, by rw [b p (by omega)]; exact h1, by rw [b (p + 1) (by omega)]; exact h2, by rw [b (p + 2) (by omega)]; exact h3, h4⟩
theorem updL_at {f : Nat → Int64} {t : List Nat} {x : Nat} (hf : ∀ i y, t[i]? = some y → f i = lN y) : ∀ i y, (t ++ [x])[i]? = some y → vp_updL f t.length (lN x) i = lN y := by
  intro i y hy
  by_cases hi : i < t.length
  · rw [List.getElem?_append_left hi] at hy
    rw [pk_uLn (by omega)]
    exact hf i y hy
  · rw [List.getElem?_append_right (by omega)] at hy
    have h9 : i - t.length < 1 := (List.getElem?_eq_some_iff.mp hy).1
    have h8 : i = t.length := by omega
    subst h8
    rw [Nat.sub_self] at hy
    cases hy
    exact pk_uLs
section MS1
variable {X : wX}
set_option maxHeartbeats 4000000 in
set_option maxRecDepth 100000 in
theorem m_MS_toggle {h : wH} {p x : Nat} {E S : List Nat} (hm : hMS h p E S) (hE : ∀ y ∈ E, y < 2 ^ 31) (hx : x < 2 ^ 31) (hlen : E.length < 400) : PM X M_MS_toggleEdge 0 0 0 [.ref p, .int (nI x)] h (fun r h' => r = none ∧ hMS h' p (eTog E x) S ∧ wOff h h' p 3) := by
  obtain ⟨f, kk, hp, ha, hb, hl1, hl2, hf, hk⟩ := hm
  refine PM.at (pl := [some (.ref p), some (.int (nI x))]) rfl rfl (by simp [wle, wen]) ?_
  generalize hEN : wEm X 0 0 _ = EN
  refine w_aload_n d_MS_toggleEdge_0 rfl rfl ?_
  refine w_get d_MS_toggleEdge_1 f_MS_21 hp rfl ?_
  suffices J35 : E.getLast? ≠ some x → WP X M_MS_toggleEdge (wR 0 0 0) 0 EN 0 0 35 [some (.ref p), some (.int (nI x))] [] h by
    refine w_if_le (tgt := 35) d_MS_toggleEdge_4 rfl (fun c4 => ?_) (fun c4 => ?_)
    · have c4 : E = [] := List.length_eq_zero_iff.mp (by rcases Nat.eq_zero_or_pos E.length with z | z; exact z; exact absurd c4 (nI_nle z (by omega)))
      exact J35 (by rw [c4]; simp)
    · have c4 : 0 < E.length := Nat.pos_of_ne_zero (fun z => c4 (by rw [z]; decide))
      have hlt : E.length - 1 < E.length := by omega
      obtain ⟨y, hy⟩ : ∃ y, E[E.length - 1]? = some y := ⟨_, List.getElem?_eq_getElem hlt⟩
      have hlast : E.getLast? = some y := by rw [List.getLast?_eq_getElem?]; exact hy
      have hy31 := hE y (List.mem_of_getElem? hy)
      refine w_aload_n d_MS_toggleEdge_7 rfl rfl ?_
      refine w_get d_MS_toggleEdge_8 f_MS_11 hp rfl ?_
      refine w_aload_n d_MS_toggleEdge_11 rfl rfl ?_
      refine w_get d_MS_toggleEdge_12 f_MS_21 hp rfl ?_
      refine w_iconst (v := nI 1) d_MS_toggleEdge_15 (by decide) ?_
      refine w_isub d_MS_toggleEdge_16 ?_
      refine w_topi (y := nI (E.length - 1)) (pk_sub c4) ?_
      refine w_iald d_MS_toggleEdge_17 ha (vp_in_nI (by omega) (by omega)) ?_
      refine w_topi (y := nI y) (by rw [nI_clamp (by omega)]; exact hf _ _ hy) ?_
      refine w_iload_n d_MS_toggleEdge_18 rfl ?_
      refine w_icmp_ne (tgt := 35) d_MS_toggleEdge_19 rfl (fun c19 => ?_) (fun c19 => ?_)
      · have c19 : y ≠ x := fun z => c19 (by rw [z])
        exact J35 (by rw [hlast]; exact fun z => c19 (Option.some.inj z))
      · have c19 : y = x := (nI_eq hy31 hx).mp c19
        subst c19
        refine w_aload_n d_MS_toggleEdge_22 rfl rfl ?_
        refine w_dup d_MS_toggleEdge_23 rfl ?_
        refine w_get d_MS_toggleEdge_24 f_MS_21 hp rfl ?_
        refine w_iconst (v := nI 1) d_MS_toggleEdge_27 (by decide) ?_
        refine w_isub d_MS_toggleEdge_28 ?_
        refine w_topi (y := nI (E.length - 1)) (pk_sub c4) ?_
        refine w_put d_MS_toggleEdge_29 f_MS_21 rfl hp rfl rfl rfl ?_
        refine w_nm (fun h1 e1 => ?_)
        have hp_1 := wS_eq e1 hp
        have ha_1 := wS_ne e1 (by omega) ha
        have hb_1 := wS_ne e1 (by omega) hb
        refine w_goto (tgt := 65) d_MS_toggleEdge_32 rfl ?_
        rw [← hEN]
        refine w_vret d_MS_toggleEdge_65 rfl ?_
        first
          | (rw [eTog, if_neg hne]
             refine ⟨rfl, ⟨_, kk, ?_, ha_3, hb_3, by rw [List.length_append, List.length_singleton]; omega, hl2, ?_, hk⟩, fun k hk => ?_⟩
             · rw [List.length_append, List.length_singleton]; exact hp_3
             · rw [nI_clamp (by omega)]; exact upd_at hf
             · rw [wS_off e1 (by omega)])
          | (rw [eTog, if_pos hlast]
             refine ⟨rfl, ⟨f, kk, ?_, ha_1, hb_1, by rw [List.length_dropLast]; omega, hl2, fun i z hz => ?_, hk⟩, fun k hk => ?_⟩
             · rw [List.length_dropLast]; exact hp_1
             · rw [List.getElem?_dropLast] at hz
               split at hz
               · exact hf i z hz
               · cases hz
             · rw [wS_off e1 (by omega)])
  intro hne
  refine w_aload_n d_MS_toggleEdge_35 rfl rfl ?_
  refine w_get d_MS_toggleEdge_36 f_MS_21 hp rfl ?_
  refine w_sipush (v := nI 400) d_MS_toggleEdge_39 (by decide) ?_
  refine w_icmp_ge (tgt := 65) d_MS_toggleEdge_42 rfl (fun z => absurd z (nI_ge hlen (by omega))) (fun _ => ?_)
  refine w_aload_n d_MS_toggleEdge_45 rfl rfl ?_
  refine w_get d_MS_toggleEdge_46 f_MS_11 hp rfl ?_
  refine w_aload_n d_MS_toggleEdge_49 rfl rfl ?_
  refine w_get d_MS_toggleEdge_50 f_MS_21 hp rfl ?_
  refine w_iload_n d_MS_toggleEdge_53 rfl ?_
  refine w_iast d_MS_toggleEdge_54 ha (vp_in_nI (by omega) (by omega)) ?_
  refine w_nm (fun h2 e2 => ?_)
  have hp_2 := wS_ne e2 (by omega) hp
  have ha_2 := wS_eq e2 ha
  have hb_2 := wS_ne e2 (by omega) hb
  refine w_aload_n d_MS_toggleEdge_55 rfl rfl ?_
  refine w_dup d_MS_toggleEdge_56 rfl ?_
  refine w_get d_MS_toggleEdge_57 f_MS_21 hp_2 rfl ?_
  refine w_iconst (v := nI 1) d_MS_toggleEdge_60 (by decide) ?_
  refine w_iadd d_MS_toggleEdge_61 ?_
  refine w_topi (y := nI (E.length + 1)) (nI_add _ _) ?_
  refine w_put d_MS_toggleEdge_62 f_MS_21 rfl hp_2 rfl rfl rfl ?_
  refine w_nm (fun h3 e3 => ?_)
  have hp_3 := wS_eq e3 hp_2
  have ha_3 := wS_ne e3 (by omega) ha_2
  have hb_3 := wS_ne e3 (by omega) hb_2
  rw [← hEN]
  refine w_vret d_MS_toggleEdge_65 rfl ?_
  first
    | (rw [eTog, if_neg hne]
       refine ⟨rfl, ⟨_, kk, ?_, ha_3, hb_3, by rw [List.length_append, List.length_singleton]; omega, hl2, ?_, hk⟩, fun k hk => ?_⟩
       · rw [List.length_append, List.length_singleton]; exact hp_3
       · rw [nI_clamp (by omega)]; exact upd_at hf
       · rw [wS_off e3 (by omega), wS_off e2 (by omega)])
    | (rw [eTog, if_pos hlast]
       refine ⟨rfl, ⟨f, kk, ?_, ha_1, hb_1, by rw [List.length_dropLast]; omega, hl2, fun i z hz => ?_, hk⟩, fun k hk => ?_⟩
       · rw [List.length_dropLast]; exact hp_1
       · rw [List.getElem?_dropLast] at hz
         split at hz
         · exact hf i z hz
         · cases hz
       · rw [wS_off e3 (by omega), wS_off e2 (by omega)])
set_option maxHeartbeats 4000000 in
set_option maxRecDepth 100000 in
theorem m_MS_appendKey {h : wH} {p x : Nat} {E S : List Nat} (hm : hMS h p E S) (hlen : S.length < 16) : PM X M_MS_appendKey 0 0 0 [.ref p, .long (lN x)] h (fun r h' => r = none ∧ hMS h' p E (S ++ [x]) ∧ wOff h h' p 3) := by
  obtain ⟨f, kk, hp, ha, hb, hl1, hl2, hf, hk⟩ := hm
  refine PM.at (pl := [some (.ref p), some (.long (lN x)), none]) rfl rfl (by simp [wle, wen]) ?_
  generalize hEN : wEm X 0 0 _ = EN
  refine w_aload_n d_MS_appendKey_0 rfl rfl ?_
  refine w_get d_MS_appendKey_1 f_MS_25 hp rfl ?_
  refine w_bipush (v := nI 16) d_MS_appendKey_4 (by decide) ?_
  refine w_icmp_ge (tgt := 29) d_MS_appendKey_6 rfl (fun z => absurd z (nI_ge hlen (by omega))) (fun _ => ?_)
  refine w_aload_n d_MS_appendKey_9 rfl rfl ?_
  refine w_get d_MS_appendKey_10 f_MS_15 hp rfl ?_
  refine w_aload_n d_MS_appendKey_13 rfl rfl ?_
  refine w_get d_MS_appendKey_14 f_MS_25 hp rfl ?_
  refine w_lload_n d_MS_appendKey_17 rfl ?_
  refine w_last d_MS_appendKey_18 hb (vp_in_nI (by omega) (by omega)) ?_
  refine w_nm (fun h1 e1 => ?_)
  have hp_1 := wS_ne e1 (by omega) hp
  have ha_1 := wS_ne e1 (by omega) ha
  have hb_1 := wS_eq e1 hb
  refine w_aload_n d_MS_appendKey_19 rfl rfl ?_
  refine w_dup d_MS_appendKey_20 rfl ?_
  refine w_get d_MS_appendKey_21 f_MS_25 hp_1 rfl ?_
  refine w_iconst (v := nI 1) d_MS_appendKey_24 (by decide) ?_
  refine w_iadd d_MS_appendKey_25 ?_
  refine w_topi (y := nI (S.length + 1)) (nI_add _ _) ?_
  refine w_put d_MS_appendKey_26 f_MS_25 rfl hp_1 rfl rfl rfl ?_
  refine w_nm (fun h2 e2 => ?_)
  have hp_2 := wS_eq e2 hp_1
  have ha_2 := wS_ne e2 (by omega) ha_1
  have hb_2 := wS_ne e2 (by omega) hb_1
  rw [← hEN]
  refine w_vret d_MS_appendKey_29 rfl ?_
  refine ⟨rfl, ⟨f, _, ?_, ha_2, hb_2, hl1, by rw [List.length_append, List.length_singleton]; omega, hf, ?_⟩, fun k hk => ?_⟩
  · rw [List.length_append, List.length_singleton]; exact hp_2
  · rw [nI_clamp (by omega)]; exact updL_at hk
  · rw [wS_off e2 (by omega), wS_off e1 (by omega)]
set_option maxHeartbeats 4000000 in
set_option maxRecDepth 100000 in
theorem m_MS_clear {h : wH} {p : Nat} {E S : List Nat} (hm : hMS h p E S) : PM X M_MS_clear 0 0 0 [.ref p] h (fun r h' => r = none ∧ hMS h' p [] [] ∧ wOff h h' p 3) := by
  obtain ⟨f, kk, hp, ha, hb, hl1, hl2, hf, hk⟩ := hm
  refine PM.at (pl := [some (.ref p)]) rfl rfl (by simp [wle, wen]) ?_
  generalize hEN : wEm X 0 0 _ = EN
  refine w_aload_n d_MS_clear_0 rfl rfl ?_
  refine w_iconst (v := nI 0) d_MS_clear_1 (by decide) ?_
  refine w_put d_MS_clear_2 f_MS_21 rfl hp rfl rfl rfl ?_
  refine w_nm (fun h1 e1 => ?_)
  have hp_1 := wS_eq e1 hp
  have ha_1 := wS_ne e1 (by omega) ha
  have hb_1 := wS_ne e1 (by omega) hb
  refine w_aload_n d_MS_clear_5 rfl rfl ?_
  refine w_iconst (v := nI 0) d_MS_clear_6 (by decide) ?_
  refine w_put d_MS_clear_7 f_MS_25 rfl hp_1 rfl rfl rfl ?_
  refine w_nm (fun h2 e2 => ?_)
  have hp_2 := wS_eq e2 hp_1
  have ha_2 := wS_ne e2 (by omega) ha_1
  have hb_2 := wS_ne e2 (by omega) hb_1
  rw [← hEN]
  refine w_vret d_MS_clear_10 rfl ?_
  refine ⟨rfl, ⟨f, kk, hp_2, ha_2, hb_2, Nat.zero_le _, Nat.zero_le _, fun i x hx => by simp at hx, fun i x hx => by simp at hx⟩, fun k hk => ?_⟩
  rw [wS_off e2 (by omega), wS_off e1 (by omega)]
set_option maxHeartbeats 4000000 in
set_option maxRecDepth 100000 in
theorem m_MS_isKept_000 {h : wH} : PM X M_MS_isKept 0 0 0 [.int (nI 0), .int (nI 0), .int (nI 0)] h (fun r h' => r = some (.int (bI (eDec 0 false false))) ∧ h' = h) := by
  refine PM.at (pl := [some (.int (nI 0)), some (.int (nI 0)), some (.int (nI 0))]) rfl rfl (by simp [wle, wen]) ?_
  generalize hEN : wEm X 0 0 _ = EN
  refine w_iload_n d_MS_isKept_0 rfl ?_
  refine w_tableIn (off := 27) (tgt := 28) d_MS_isKept_1 (by decide) (by decide) (by decide) (by decide) ?_
  refine w_iload_n d_MS_isKept_28 rfl ?_
  refine w_if_ne (tgt := 36) d_MS_isKept_29 rfl (fun z => absurd (by decide) z) (fun _ => ?_)
  refine w_iload_n d_MS_isKept_32 rfl ?_
  refine w_if_eq (tgt := 40) d_MS_isKept_33 rfl (fun _ => ?_) (fun z => absurd (by decide) z)
  refine w_iconst (v := nI 0) d_MS_isKept_40 (by decide) ?_
  rw [← hEN]
  refine w_zret d_MS_isKept_41 rfl (by first | exact Or.inl rfl | exact Or.inr rfl) ?_
  exact ⟨rfl, rfl⟩
set_option maxHeartbeats 4000000 in
set_option maxRecDepth 100000 in
theorem m_MS_isKept_001 {h : wH} : PM X M_MS_isKept 0 0 0 [.int (nI 0), .int (nI 0), .int (nI 1)] h (fun r h' => r = some (.int (bI (eDec 1 false false))) ∧ h' = h) := by
  refine PM.at (pl := [some (.int (nI 0)), some (.int (nI 0)), some (.int (nI 1))]) rfl rfl (by simp [wle, wen]) ?_
  generalize hEN : wEm X 0 0 _ = EN
  refine w_iload_n d_MS_isKept_0 rfl ?_
  refine w_tableIn (off := 41) (tgt := 42) d_MS_isKept_1 (by decide) (by decide) (by decide) (by decide) ?_
  refine w_iload_n d_MS_isKept_42 rfl ?_
  refine w_if_eq (tgt := 54) d_MS_isKept_43 rfl (fun _ => ?_) (fun z => absurd (by decide) z)
  refine w_iconst (v := nI 0) d_MS_isKept_54 (by decide) ?_
  rw [← hEN]
  refine w_zret d_MS_isKept_55 rfl (by first | exact Or.inl rfl | exact Or.inr rfl) ?_
  exact ⟨rfl, rfl⟩
set_option maxHeartbeats 4000000 in
set_option maxRecDepth 100000 in
theorem m_MS_isKept_002 {h : wH} : PM X M_MS_isKept 0 0 0 [.int (nI 0), .int (nI 0), .int (nI 2)] h (fun r h' => r = some (.int (bI (eDec 2 false false))) ∧ h' = h) := by
  refine PM.at (pl := [some (.int (nI 0)), some (.int (nI 0)), some (.int (nI 2))]) rfl rfl (by simp [wle, wen]) ?_
  generalize hEN : wEm X 0 0 _ = EN
  refine w_iload_n d_MS_isKept_0 rfl ?_
  refine w_tableIn (off := 55) (tgt := 56) d_MS_isKept_1 (by decide) (by decide) (by decide) (by decide) ?_
  refine w_iload_n d_MS_isKept_56 rfl ?_
  refine w_if_eq (tgt := 68) d_MS_isKept_57 rfl (fun _ => ?_) (fun z => absurd (by decide) z)
  refine w_iconst (v := nI 0) d_MS_isKept_68 (by decide) ?_
  rw [← hEN]
  refine w_zret d_MS_isKept_69 rfl (by first | exact Or.inl rfl | exact Or.inr rfl) ?_
  exact ⟨rfl, rfl⟩
set_option maxHeartbeats 4000000 in
set_option maxRecDepth 100000 in
theorem m_MS_isKept_003 {h : wH} : PM X M_MS_isKept 0 0 0 [.int (nI 0), .int (nI 0), .int (nI 3)] h (fun r h' => r = some (.int (bI (eDec 3 false false))) ∧ h' = h) := by
  refine PM.at (pl := [some (.int (nI 0)), some (.int (nI 0)), some (.int (nI 3))]) rfl rfl (by simp [wle, wen]) ?_
  generalize hEN : wEm X 0 0 _ = EN
  refine w_iload_n d_MS_isKept_0 rfl ?_
  refine w_tableOut (tgt := 70) d_MS_isKept_1 (by decide) (by decide) ?_
  refine w_iload_n d_MS_isKept_70 rfl ?_
  refine w_iload_n d_MS_isKept_71 rfl ?_
  refine w_icmp_eq (tgt := 79) d_MS_isKept_72 rfl (fun _ => ?_) (fun z => absurd (by decide) z)
  refine w_iconst (v := nI 0) d_MS_isKept_79 (by decide) ?_
  rw [← hEN]
  refine w_zret d_MS_isKept_80 rfl (by first | exact Or.inl rfl | exact Or.inr rfl) ?_
  exact ⟨rfl, rfl⟩
set_option maxHeartbeats 4000000 in
set_option maxRecDepth 100000 in
theorem m_MS_isKept_010 {h : wH} : PM X M_MS_isKept 0 0 0 [.int (nI 0), .int (nI 1), .int (nI 0)] h (fun r h' => r = some (.int (bI (eDec 0 false true))) ∧ h' = h) := by
  refine PM.at (pl := [some (.int (nI 0)), some (.int (nI 1)), some (.int (nI 0))]) rfl rfl (by simp [wle, wen]) ?_
  generalize hEN : wEm X 0 0 _ = EN
  refine w_iload_n d_MS_isKept_0 rfl ?_
  refine w_tableIn (off := 27) (tgt := 28) d_MS_isKept_1 (by decide) (by decide) (by decide) (by decide) ?_
  refine w_iload_n d_MS_isKept_28 rfl ?_
  refine w_if_ne (tgt := 36) d_MS_isKept_29 rfl (fun z => absurd (by decide) z) (fun _ => ?_)
  refine w_iload_n d_MS_isKept_32 rfl ?_
  refine w_if_eq (tgt := 40) d_MS_isKept_33 rfl (fun z => absurd z (by decide)) (fun _ => ?_)
  refine w_iconst (v := nI 1) d_MS_isKept_36 (by decide) ?_
  refine w_goto (tgt := 41) d_MS_isKept_37 rfl ?_
  rw [← hEN]
  refine w_zret d_MS_isKept_41 rfl (by first | exact Or.inl rfl | exact Or.inr rfl) ?_
  exact ⟨rfl, rfl⟩
set_option maxHeartbeats 4000000 in
set_option maxRecDepth 100000 in
theorem m_MS_isKept_011 {h : wH} : PM X M_MS_isKept 0 0 0 [.int (nI 0), .int (nI 1), .int (nI 1)] h (fun r h' => r = some (.int (bI (eDec 1 false true))) ∧ h' = h) := by
  refine PM.at (pl := [some (.int (nI 0)), some (.int (nI 1)), some (.int (nI 1))]) rfl rfl (by simp [wle, wen]) ?_
  generalize hEN : wEm X 0 0 _ = EN
  refine w_iload_n d_MS_isKept_0 rfl ?_
  refine w_tableIn (off := 41) (tgt := 42) d_MS_isKept_1 (by decide) (by decide) (by decide) (by decide) ?_
  refine w_iload_n d_MS_isKept_42 rfl ?_
  refine w_if_eq (tgt := 54) d_MS_isKept_43 rfl (fun _ => ?_) (fun z => absurd (by decide) z)
  refine w_iconst (v := nI 0) d_MS_isKept_54 (by decide) ?_
  rw [← hEN]
  refine w_zret d_MS_isKept_55 rfl (by first | exact Or.inl rfl | exact Or.inr rfl) ?_
  exact ⟨rfl, rfl⟩
set_option maxHeartbeats 4000000 in
set_option maxRecDepth 100000 in
theorem m_MS_isKept_012 {h : wH} : PM X M_MS_isKept 0 0 0 [.int (nI 0), .int (nI 1), .int (nI 2)] h (fun r h' => r = some (.int (bI (eDec 2 false true))) ∧ h' = h) := by
  refine PM.at (pl := [some (.int (nI 0)), some (.int (nI 1)), some (.int (nI 2))]) rfl rfl (by simp [wle, wen]) ?_
  generalize hEN : wEm X 0 0 _ = EN
  refine w_iload_n d_MS_isKept_0 rfl ?_
  refine w_tableIn (off := 55) (tgt := 56) d_MS_isKept_1 (by decide) (by decide) (by decide) (by decide) ?_
  refine w_iload_n d_MS_isKept_56 rfl ?_
  refine w_if_eq (tgt := 68) d_MS_isKept_57 rfl (fun _ => ?_) (fun z => absurd (by decide) z)
  refine w_iconst (v := nI 0) d_MS_isKept_68 (by decide) ?_
  rw [← hEN]
  refine w_zret d_MS_isKept_69 rfl (by first | exact Or.inl rfl | exact Or.inr rfl) ?_
  exact ⟨rfl, rfl⟩
set_option maxHeartbeats 4000000 in
set_option maxRecDepth 100000 in
theorem m_MS_isKept_013 {h : wH} : PM X M_MS_isKept 0 0 0 [.int (nI 0), .int (nI 1), .int (nI 3)] h (fun r h' => r = some (.int (bI (eDec 3 false true))) ∧ h' = h) := by
  refine PM.at (pl := [some (.int (nI 0)), some (.int (nI 1)), some (.int (nI 3))]) rfl rfl (by simp [wle, wen]) ?_
  generalize hEN : wEm X 0 0 _ = EN
  refine w_iload_n d_MS_isKept_0 rfl ?_
  refine w_tableOut (tgt := 70) d_MS_isKept_1 (by decide) (by decide) ?_
  refine w_iload_n d_MS_isKept_70 rfl ?_
  refine w_iload_n d_MS_isKept_71 rfl ?_
  refine w_icmp_eq (tgt := 79) d_MS_isKept_72 rfl (fun z => absurd z (by decide)) (fun _ => ?_)
  refine w_iconst (v := nI 1) d_MS_isKept_75 (by decide) ?_
  refine w_goto (tgt := 80) d_MS_isKept_76 rfl ?_
  rw [← hEN]
  refine w_zret d_MS_isKept_80 rfl (by first | exact Or.inl rfl | exact Or.inr rfl) ?_
  exact ⟨rfl, rfl⟩
set_option maxHeartbeats 4000000 in
set_option maxRecDepth 100000 in
theorem m_MS_isKept_100 {h : wH} : PM X M_MS_isKept 0 0 0 [.int (nI 1), .int (nI 0), .int (nI 0)] h (fun r h' => r = some (.int (bI (eDec 0 true false))) ∧ h' = h) := by
  refine PM.at (pl := [some (.int (nI 1)), some (.int (nI 0)), some (.int (nI 0))]) rfl rfl (by simp [wle, wen]) ?_
  generalize hEN : wEm X 0 0 _ = EN
  refine w_iload_n d_MS_isKept_0 rfl ?_
  refine w_tableIn (off := 27) (tgt := 28) d_MS_isKept_1 (by decide) (by decide) (by decide) (by decide) ?_
  refine w_iload_n d_MS_isKept_28 rfl ?_
  refine w_if_ne (tgt := 36) d_MS_isKept_29 rfl (fun _ => ?_) (fun z => absurd z (by decide))
  refine w_iconst (v := nI 1) d_MS_isKept_36 (by decide) ?_
  refine w_goto (tgt := 41) d_MS_isKept_37 rfl ?_
  rw [← hEN]
  refine w_zret d_MS_isKept_41 rfl (by first | exact Or.inl rfl | exact Or.inr rfl) ?_
  exact ⟨rfl, rfl⟩
set_option maxHeartbeats 4000000 in
set_option maxRecDepth 100000 in
theorem m_MS_isKept_101 {h : wH} : PM X M_MS_isKept 0 0 0 [.int (nI 1), .int (nI 0), .int (nI 1)] h (fun r h' => r = some (.int (bI (eDec 1 true false))) ∧ h' = h) := by
  refine PM.at (pl := [some (.int (nI 1)), some (.int (nI 0)), some (.int (nI 1))]) rfl rfl (by simp [wle, wen]) ?_
  generalize hEN : wEm X 0 0 _ = EN
  refine w_iload_n d_MS_isKept_0 rfl ?_
  refine w_tableIn (off := 41) (tgt := 42) d_MS_isKept_1 (by decide) (by decide) (by decide) (by decide) ?_
  refine w_iload_n d_MS_isKept_42 rfl ?_
  refine w_if_eq (tgt := 54) d_MS_isKept_43 rfl (fun z => absurd z (by decide)) (fun _ => ?_)
  refine w_iload_n d_MS_isKept_46 rfl ?_
  refine w_if_eq (tgt := 54) d_MS_isKept_47 rfl (fun _ => ?_) (fun z => absurd (by decide) z)
  refine w_iconst (v := nI 0) d_MS_isKept_54 (by decide) ?_
  rw [← hEN]
  refine w_zret d_MS_isKept_55 rfl (by first | exact Or.inl rfl | exact Or.inr rfl) ?_
  exact ⟨rfl, rfl⟩
set_option maxHeartbeats 4000000 in
set_option maxRecDepth 100000 in
theorem m_MS_isKept_102 {h : wH} : PM X M_MS_isKept 0 0 0 [.int (nI 1), .int (nI 0), .int (nI 2)] h (fun r h' => r = some (.int (bI (eDec 2 true false))) ∧ h' = h) := by
  refine PM.at (pl := [some (.int (nI 1)), some (.int (nI 0)), some (.int (nI 2))]) rfl rfl (by simp [wle, wen]) ?_
  generalize hEN : wEm X 0 0 _ = EN
  refine w_iload_n d_MS_isKept_0 rfl ?_
  refine w_tableIn (off := 55) (tgt := 56) d_MS_isKept_1 (by decide) (by decide) (by decide) (by decide) ?_
  refine w_iload_n d_MS_isKept_56 rfl ?_
  refine w_if_eq (tgt := 68) d_MS_isKept_57 rfl (fun z => absurd z (by decide)) (fun _ => ?_)
  refine w_iload_n d_MS_isKept_60 rfl ?_
  refine w_if_ne (tgt := 68) d_MS_isKept_61 rfl (fun z => absurd (by decide) z) (fun _ => ?_)
  refine w_iconst (v := nI 1) d_MS_isKept_64 (by decide) ?_
  refine w_goto (tgt := 69) d_MS_isKept_65 rfl ?_
  rw [← hEN]
  refine w_zret d_MS_isKept_69 rfl (by first | exact Or.inl rfl | exact Or.inr rfl) ?_
  exact ⟨rfl, rfl⟩
set_option maxHeartbeats 4000000 in
set_option maxRecDepth 100000 in
theorem m_MS_isKept_103 {h : wH} : PM X M_MS_isKept 0 0 0 [.int (nI 1), .int (nI 0), .int (nI 3)] h (fun r h' => r = some (.int (bI (eDec 3 true false))) ∧ h' = h) := by
  refine PM.at (pl := [some (.int (nI 1)), some (.int (nI 0)), some (.int (nI 3))]) rfl rfl (by simp [wle, wen]) ?_
  generalize hEN : wEm X 0 0 _ = EN
  refine w_iload_n d_MS_isKept_0 rfl ?_
  refine w_tableOut (tgt := 70) d_MS_isKept_1 (by decide) (by decide) ?_
  refine w_iload_n d_MS_isKept_70 rfl ?_
  refine w_iload_n d_MS_isKept_71 rfl ?_
  refine w_icmp_eq (tgt := 79) d_MS_isKept_72 rfl (fun z => absurd z (by decide)) (fun _ => ?_)
  refine w_iconst (v := nI 1) d_MS_isKept_75 (by decide) ?_
  refine w_goto (tgt := 80) d_MS_isKept_76 rfl ?_
  rw [← hEN]
  refine w_zret d_MS_isKept_80 rfl (by first | exact Or.inl rfl | exact Or.inr rfl) ?_
  exact ⟨rfl, rfl⟩
set_option maxHeartbeats 4000000 in
set_option maxRecDepth 100000 in
theorem m_MS_isKept_110 {h : wH} : PM X M_MS_isKept 0 0 0 [.int (nI 1), .int (nI 1), .int (nI 0)] h (fun r h' => r = some (.int (bI (eDec 0 true true))) ∧ h' = h) := by
  refine PM.at (pl := [some (.int (nI 1)), some (.int (nI 1)), some (.int (nI 0))]) rfl rfl (by simp [wle, wen]) ?_
  generalize hEN : wEm X 0 0 _ = EN
  refine w_iload_n d_MS_isKept_0 rfl ?_
  refine w_tableIn (off := 27) (tgt := 28) d_MS_isKept_1 (by decide) (by decide) (by decide) (by decide) ?_
  refine w_iload_n d_MS_isKept_28 rfl ?_
  refine w_if_ne (tgt := 36) d_MS_isKept_29 rfl (fun _ => ?_) (fun z => absurd z (by decide))
  refine w_iconst (v := nI 1) d_MS_isKept_36 (by decide) ?_
  refine w_goto (tgt := 41) d_MS_isKept_37 rfl ?_
  rw [← hEN]
  refine w_zret d_MS_isKept_41 rfl (by first | exact Or.inl rfl | exact Or.inr rfl) ?_
  exact ⟨rfl, rfl⟩
set_option maxHeartbeats 4000000 in
set_option maxRecDepth 100000 in
theorem m_MS_isKept_111 {h : wH} : PM X M_MS_isKept 0 0 0 [.int (nI 1), .int (nI 1), .int (nI 1)] h (fun r h' => r = some (.int (bI (eDec 1 true true))) ∧ h' = h) := by
  refine PM.at (pl := [some (.int (nI 1)), some (.int (nI 1)), some (.int (nI 1))]) rfl rfl (by simp [wle, wen]) ?_
  generalize hEN : wEm X 0 0 _ = EN
  refine w_iload_n d_MS_isKept_0 rfl ?_
  refine w_tableIn (off := 41) (tgt := 42) d_MS_isKept_1 (by decide) (by decide) (by decide) (by decide) ?_
  refine w_iload_n d_MS_isKept_42 rfl ?_
  refine w_if_eq (tgt := 54) d_MS_isKept_43 rfl (fun z => absurd z (by decide)) (fun _ => ?_)
  refine w_iload_n d_MS_isKept_46 rfl ?_
  refine w_if_eq (tgt := 54) d_MS_isKept_47 rfl (fun z => absurd z (by decide)) (fun _ => ?_)
  refine w_iconst (v := nI 1) d_MS_isKept_50 (by decide) ?_
  refine w_goto (tgt := 55) d_MS_isKept_51 rfl ?_
  rw [← hEN]
  refine w_zret d_MS_isKept_55 rfl (by first | exact Or.inl rfl | exact Or.inr rfl) ?_
  exact ⟨rfl, rfl⟩
set_option maxHeartbeats 4000000 in
set_option maxRecDepth 100000 in
theorem m_MS_isKept_112 {h : wH} : PM X M_MS_isKept 0 0 0 [.int (nI 1), .int (nI 1), .int (nI 2)] h (fun r h' => r = some (.int (bI (eDec 2 true true))) ∧ h' = h) := by
  refine PM.at (pl := [some (.int (nI 1)), some (.int (nI 1)), some (.int (nI 2))]) rfl rfl (by simp [wle, wen]) ?_
  generalize hEN : wEm X 0 0 _ = EN
  refine w_iload_n d_MS_isKept_0 rfl ?_
  refine w_tableIn (off := 55) (tgt := 56) d_MS_isKept_1 (by decide) (by decide) (by decide) (by decide) ?_
  refine w_iload_n d_MS_isKept_56 rfl ?_
  refine w_if_eq (tgt := 68) d_MS_isKept_57 rfl (fun z => absurd z (by decide)) (fun _ => ?_)
  refine w_iload_n d_MS_isKept_60 rfl ?_
  refine w_if_ne (tgt := 68) d_MS_isKept_61 rfl (fun _ => ?_) (fun z => absurd z (by decide))
  refine w_iconst (v := nI 0) d_MS_isKept_68 (by decide) ?_
  rw [← hEN]
  refine w_zret d_MS_isKept_69 rfl (by first | exact Or.inl rfl | exact Or.inr rfl) ?_
  exact ⟨rfl, rfl⟩
set_option maxHeartbeats 4000000 in
set_option maxRecDepth 100000 in
theorem m_MS_isKept_113 {h : wH} : PM X M_MS_isKept 0 0 0 [.int (nI 1), .int (nI 1), .int (nI 3)] h (fun r h' => r = some (.int (bI (eDec 3 true true))) ∧ h' = h) := by
  refine PM.at (pl := [some (.int (nI 1)), some (.int (nI 1)), some (.int (nI 3))]) rfl rfl (by simp [wle, wen]) ?_
  generalize hEN : wEm X 0 0 _ = EN
  refine w_iload_n d_MS_isKept_0 rfl ?_
  refine w_tableOut (tgt := 70) d_MS_isKept_1 (by decide) (by decide) ?_
  refine w_iload_n d_MS_isKept_70 rfl ?_
  refine w_iload_n d_MS_isKept_71 rfl ?_
  refine w_icmp_eq (tgt := 79) d_MS_isKept_72 rfl (fun _ => ?_) (fun z => absurd (by decide) z)
  refine w_iconst (v := nI 0) d_MS_isKept_79 (by decide) ?_
  rw [← hEN]
  refine w_zret d_MS_isKept_80 rfl (by first | exact Or.inl rfl | exact Or.inr rfl) ?_
  exact ⟨rfl, rfl⟩
theorem m_MS_isKept {h : wH} {a b : Bool} {how : Nat} (hh : how ≤ 3) : PM X M_MS_isKept 0 0 0 [.int (bI a), .int (bI b), .int (nI how)] h (fun r h' => r = some (.int (bI (eDec how a b))) ∧ h' = h) := by
  rcases (show how = 0 ∨ how = 1 ∨ how = 2 ∨ how = 3 by omega) with rfl | rfl | rfl | rfl <;> cases a <;> cases b
  · exact m_MS_isKept_000
  · exact m_MS_isKept_010
  · exact m_MS_isKept_100
  · exact m_MS_isKept_110
  · exact m_MS_isKept_001
  · exact m_MS_isKept_011
  · exact m_MS_isKept_101
  · exact m_MS_isKept_111
  · exact m_MS_isKept_002
  · exact m_MS_isKept_012
  · exact m_MS_isKept_102
  · exact m_MS_isKept_112
  · exact m_MS_isKept_003
  · exact m_MS_isKept_013
  · exact m_MS_isKept_103
  · exact m_MS_isKept_113
set_option maxHeartbeats 4000000 in
set_option maxRecDepth 100000 in
theorem m_MS_holdsCode {h : wH} {p c : Nat} {E S : List Nat} (hm : hMS h p E S) (hA : eAsc E) (hE : ∀ y ∈ E, y < 2 ^ 31) (hc : c < 2 ^ 31) : PM X M_MS_holdsCode 0 0 0 [.ref p, .int (nI c)] h (fun r h' => r = some (.int (bI (eMem E c))) ∧ h' = h) := by
  obtain ⟨f, kk, hp, ha, hb, hl1, hl2, hf, hk⟩ := hm
  refine PM.at (pl := [some (.ref p), some (.int (nI c)), none, none, none, none]) rfl rfl (by simp [wle, wen]) ?_
  generalize hEN : wEm X 0 0 _ = EN
  have hcn := eCnt_le E c
  have END : ∀ (low high s : Nat), (low = eCnt E c) → WP X M_MS_holdsCode (wR 0 0 0) 0 EN 0 0 58 [some (.ref p), some (.int (nI c)), some (.int (nI low)), some (.int (nI high)), some (.int (nI s)), none] [] h := by
    intro low high s he
    refine w_iload_n d_MS_holdsCode_58 rfl ?_
    refine w_iconst (v := nI 1) d_MS_holdsCode_59 (by decide) ?_
    refine w_iand d_MS_holdsCode_60 ?_
    refine w_topi (y := nI (low % 2 ^ 1)) (pk_andN (m := nI 1) (by omega) 1 (by decide)) ?_
    refine w_iconst (v := nI 1) d_MS_holdsCode_61 (by decide) ?_
    refine w_icmp_ne (tgt := 69) d_MS_holdsCode_62 rfl (fun c62 => ?_) (fun c62 => ?_)
    · have c62 : ¬ low % 2 = 1 := fun z => c62 (by rw [show 2 ^ 1 = 2 from rfl, z])
      refine w_iconst (v := nI 0) d_MS_holdsCode_69 (by decide) ?_
      rw [← hEN]
      refine w_zret d_MS_holdsCode_70 rfl (by first | exact Or.inl rfl | exact Or.inr rfl) ?_
      refine ⟨?_, rfl⟩
      unfold eMem
      rw [← he]
      first | (rw [c62]; rfl) | (rw [show low % 2 = 0 by omega]; rfl)
    · have c62 : low % 2 = 1 := (nI_eq (by omega) (by omega)).mp c62
      refine w_iconst (v := nI 1) d_MS_holdsCode_65 (by decide) ?_
      refine w_goto (tgt := 70) d_MS_holdsCode_66 rfl ?_
      rw [← hEN]
      refine w_zret d_MS_holdsCode_70 rfl (by first | exact Or.inl rfl | exact Or.inr rfl) ?_
      refine ⟨?_, rfl⟩
      unfold eMem
      rw [← he]
      first | (rw [c62]; rfl) | (rw [show low % 2 = 0 by omega]; rfl)
  have L : ∀ (n : Nat) (low high s : Nat), (high - low < n) → (low ≤ eCnt E c) → (eCnt E c ≤ high) → (high ≤ E.length) → (s + (high - low) ≤ 400) → WP X M_MS_holdsCode (wR 0 0 0) 0 EN 0 0 10 [some (.ref p), some (.int (nI c)), some (.int (nI low)), some (.int (nI high)), some (.int (nI s)), none] [] h := by
    intro n
    induction n with
    | zero => intro low high s h1 h2 h3 h4 h5; omega
    | succ n ih =>
      intro low high s h1 h2 h3 h4 h5
      refine w_iload d_MS_holdsCode_10 rfl ?_
      refine w_sipush (v := nI 400) d_MS_holdsCode_12 (by decide) ?_
      refine w_icmp_ge (tgt := 58) d_MS_holdsCode_15 rfl (fun c15 => ?_) (fun c15 => ?_)
      · have c15 := (nI_leI (a := 400) (b := s) (by omega) (by omega)).mp c15
        refine w_le (pl' := [some (.ref p), some (.int (nI c)), some (.int (nI low)), some (.int (nI high)), some (.int (nI s)), none]) ⟨rfl, rfl, rfl, rfl, rfl, trivial⟩ ?_
        exact END low high s (by omega)
      · have c15 : s < 400 := Nat.not_le.mp (fun z => c15 ((nI_leI (a := 400) (b := s) (by omega) (by omega)).mpr z))
        refine w_iload_n d_MS_holdsCode_18 rfl ?_
        refine w_iload_n d_MS_holdsCode_19 rfl ?_
        refine w_icmp_ge (tgt := 58) d_MS_holdsCode_20 rfl (fun c20 => ?_) (fun c20 => ?_)
        · have c20 := (nI_leI (a := high) (b := low) (by omega) (by omega)).mp c20
          refine w_le (pl' := [some (.ref p), some (.int (nI c)), some (.int (nI low)), some (.int (nI high)), some (.int (nI s)), none]) ⟨rfl, rfl, rfl, rfl, rfl, trivial⟩ ?_
          exact END low high s (by omega)
        · have c20 : low < high := Nat.not_le.mp (fun z => c20 ((nI_leI (a := high) (b := low) (by omega) (by omega)).mpr z))
          obtain ⟨mid, hmid⟩ : ∃ mid, mid = (low + high) / 2 := ⟨_, rfl⟩
          have hm1 : low ≤ mid := by omega
          have hm2 : mid < high := by omega
          obtain ⟨y, hy⟩ : ∃ y, E[mid]? = some y := ⟨_, List.getElem?_eq_getElem (by omega)⟩
          have hy31 := hE y (List.mem_of_getElem? hy)
          have hiff := eCnt_iff hA hy (c := c)
          refine w_iload_n d_MS_holdsCode_23 rfl ?_
          refine w_iload_n d_MS_holdsCode_24 rfl ?_
          refine w_iadd d_MS_holdsCode_25 ?_
          refine w_topi (y := nI (low + high)) (nI_add _ _) ?_
          refine w_iconst (v := nI 2) d_MS_holdsCode_26 (by decide) ?_
          refine w_idiv d_MS_holdsCode_27 (by decide) ?_
          refine w_topi (y := nI mid) (by rw [hmid]; exact pk_div (by omega) (by omega) (by omega)) ?_
          refine w_istore d_MS_holdsCode_28 (by decide) ?_
          refine w_aload_n d_MS_holdsCode_30 rfl rfl ?_
          refine w_get d_MS_holdsCode_31 f_MS_11 hp rfl ?_
          refine w_iload d_MS_holdsCode_34 rfl ?_
          refine w_iald d_MS_holdsCode_36 ha (vp_in_nI (by omega) (by omega)) ?_
          refine w_topi (y := nI y) (by rw [nI_clamp (by omega)]; exact hf _ _ hy) ?_
          refine w_iload_n d_MS_holdsCode_37 rfl ?_
          refine w_icmp_gt (tgt := 49) d_MS_holdsCode_38 rfl (fun c38 => ?_) (fun c38 => ?_)
          · have c38 : ¬ mid < eCnt E c := fun z => absurd ((nI_ltI hc hy31).mp c38) (by have := hiff.mpr z; omega)
            refine w_iload d_MS_holdsCode_49 rfl ?_
            refine w_istore_n d_MS_holdsCode_51 (by decide) ?_
            refine w_iinc (v := nI (s + 1)) d_MS_holdsCode_52 rfl (nI_1 _) (by decide) ?_
            refine w_goto (tgt := 10) d_MS_holdsCode_55 rfl ?_
            refine w_le (pl' := [some (.ref p), some (.int (nI c)), some (.int (nI low)), some (.int (nI mid)), some (.int (nI (s + 1))), none]) ⟨rfl, rfl, rfl, rfl, rfl, trivial⟩ ?_
            exact ih low mid (s + 1) (by omega) h2 (by omega) (by omega) (by omega)
          · have c38 : mid < eCnt E c := hiff.mp (by have : ¬ c < y := fun z => c38 ((nI_ltI hc hy31).mpr z); omega)
            refine w_iload d_MS_holdsCode_41 rfl ?_
            refine w_iconst (v := nI 1) d_MS_holdsCode_43 (by decide) ?_
            refine w_iadd d_MS_holdsCode_44 ?_
            refine w_topi (y := nI (mid + 1)) (nI_add _ _) ?_
            refine w_istore_n d_MS_holdsCode_45 (by decide) ?_
            refine w_goto (tgt := 52) d_MS_holdsCode_46 rfl ?_
            refine w_iinc (v := nI (s + 1)) d_MS_holdsCode_52 rfl (nI_1 _) (by decide) ?_
            refine w_goto (tgt := 10) d_MS_holdsCode_55 rfl ?_
            refine w_le (pl' := [some (.ref p), some (.int (nI c)), some (.int (nI (mid + 1))), some (.int (nI high)), some (.int (nI (s + 1))), none]) ⟨rfl, rfl, rfl, rfl, rfl, trivial⟩ ?_
            exact ih (mid + 1) high (s + 1) (by omega) (by omega) h3 h4 (by omega)
  refine w_iconst (v := nI 0) d_MS_holdsCode_0 (by decide) ?_
  refine w_istore_n d_MS_holdsCode_1 (by decide) ?_
  refine w_aload_n d_MS_holdsCode_2 rfl rfl ?_
  refine w_get d_MS_holdsCode_3 f_MS_21 hp rfl ?_
  refine w_istore_n d_MS_holdsCode_6 (by decide) ?_
  refine w_iconst (v := nI 0) d_MS_holdsCode_7 (by decide) ?_
  refine w_istore d_MS_holdsCode_8 (by decide) ?_
  exact L (E.length + 1) 0 E.length 0 (by omega) (Nat.zero_le _) hcn (Nat.le_refl _) (by omega)
set_option maxHeartbeats 4000000 in
set_option maxRecDepth 100000 in
theorem m_MS_holdsString {h : wH} {p c : Nat} {E S : List Nat} (hm : hMS h p E S) (hE : ∀ y ∈ S, y < 2 ^ 63) (hc : c < 2 ^ 63) : PM X M_MS_holdsString 0 0 0 [.ref p, .long (lN c)] h (fun r h' => r = some (.int (bI (decide (c ∈ S)))) ∧ h' = h) := by
  obtain ⟨f, kk, hp, ha, hb, hl1, hl2, hf, hk⟩ := hm
  refine PM.at (pl := [some (.ref p), some (.long (lN c)), none, none]) rfl rfl (by simp [wle, wen]) ?_
  generalize hEN : wEm X 0 0 _ = EN
  have L : ∀ (n : Nat) (i : Nat), (S.length - i < n) → (i ≤ S.length) → (∀ j y, j < i → S[j]? = some y → y ≠ c) → WP X M_MS_holdsString (wR 0 0 0) 0 EN 0 0 2 [some (.ref p), some (.long (lN c)), none, some (.int (nI i))] [] h := by
    intro n
    induction n with
    | zero => intro i h1 h2 h3; omega
    | succ n ih =>
      intro i h1 h2 h3
      refine w_iload_n d_MS_holdsString_2 rfl ?_
      refine w_aload_n d_MS_holdsString_3 rfl rfl ?_
      refine w_get d_MS_holdsString_4 f_MS_25 hp rfl ?_
      refine w_icmp_ge (tgt := 29) d_MS_holdsString_7 rfl (fun c7 => ?_) (fun c7 => ?_)
      · have c7 := (nI_leI (a := S.length) (b := i) (by omega) (by omega)).mp c7
        refine w_iconst (v := nI 0) d_MS_holdsString_29 (by decide) ?_
        rw [← hEN]
        refine w_zret d_MS_holdsString_30 rfl (by first | exact Or.inl rfl | exact Or.inr rfl) ?_
        refine ⟨?_, rfl⟩
        rw [decide_eq_false (fun z => by
          obtain ⟨j, hj⟩ := List.getElem?_of_mem z
          exact h3 j c (by have := (List.getElem?_eq_some_iff.mp hj).1; omega) hj rfl)]
        rfl
      · have c7 : i < S.length := Nat.not_le.mp (fun z => c7 ((nI_leI (a := S.length) (b := i) (by omega) (by omega)).mpr z))
        obtain ⟨y, hy⟩ : ∃ y, S[i]? = some y := ⟨_, List.getElem?_eq_getElem c7⟩
        have hy63 := hE y (List.mem_of_getElem? hy)
        refine w_aload_n d_MS_holdsString_10 rfl rfl ?_
        refine w_get d_MS_holdsString_11 f_MS_15 hp rfl ?_
        refine w_iload_n d_MS_holdsString_14 rfl ?_
        refine w_lald d_MS_holdsString_15 hb (vp_in_nI (by omega) (by omega)) ?_
        refine w_topl (y := lN y) (by rw [nI_clamp (by omega)]; exact hk _ _ hy) ?_
        refine w_lload_n d_MS_holdsString_16 rfl ?_
        refine w_lcmp d_MS_holdsString_17 ?_
        refine w_if_ne (tgt := 23) d_MS_holdsString_18 rfl (fun c18 => ?_) (fun c18 => ?_)
        · have c18 : y ≠ c := fun z => c18 (by rw [z]; exact lg_cmp_self _)
          refine w_iinc (v := nI (i + 1)) d_MS_holdsString_23 rfl (nI_1 _) (by decide) ?_
          refine w_goto (tgt := 2) d_MS_holdsString_26 rfl ?_
          exact ih (i + 1) (by omega) (by omega) (fun j z hj hz => by
            by_cases hji : j = i
            · subst hji; rw [hy] at hz; cases hz; exact c18
            · exact h3 j z (by omega) hz)
        · have c18 : y = c := (pk_lEQ hy63 hc).mp (lg_cmp_0 c18)
          refine w_iconst (v := nI 1) d_MS_holdsString_21 (by decide) ?_
          rw [← hEN]
          refine w_zret d_MS_holdsString_22 rfl (by first | exact Or.inl rfl | exact Or.inr rfl) ?_
          refine ⟨?_, rfl⟩
          rw [decide_eq_true (c18 ▸ List.mem_of_getElem? hy)]
          rfl
  refine w_iconst (v := nI 0) d_MS_holdsString_0 (by decide) ?_
  refine w_istore_n d_MS_holdsString_1 (by decide) ?_
  exact L (S.length + 1) 0 (by omega) (Nat.zero_le _) (fun j y hj => by omega)
set_option maxHeartbeats 4000000 in
set_option maxRecDepth 100000 in
theorem m_MS_codeCount {h : wH} {p : Nat} {E S : List Nat} (hm : hMS h p E S) (hA : eAsc E) : PM X M_MS_codeCount 0 0 0 [.ref p] h (fun r h' => r = some (.int (nI (eSize E))) ∧ h' = h) := by
  obtain ⟨f, kk, hp, ha, hb, hl1, hl2, hf, hk⟩ := hm
  refine PM.at (pl := [some (.ref p), none, none]) rfl rfl (by simp [wle, wen]) ?_
  generalize hEN : wEm X 0 0 _ = EN
  have L : ∀ (n : Nat) (i tot : Nat), (E.length - i < n) → (i ≤ E.length + 1) → (tot + eSize (E.drop i) = eSize E) → WP X M_MS_codeCount (wR 0 0 0) 0 EN 0 0 4 [some (.ref p), some (.int (nI tot)), some (.int (nI i))] [] h := by
    intro n
    induction n with
    | zero => intro i tot h1 h2 h3; omega
    | succ n ih =>
      intro i tot h1 h2 h3
      refine w_iload_n d_MS_codeCount_4 rfl ?_
      refine w_iconst (v := nI 1) d_MS_codeCount_5 (by decide) ?_
      refine w_iadd d_MS_codeCount_6 ?_
      refine w_topi (y := nI (i + 1)) (nI_add _ _) ?_
      refine w_aload_n d_MS_codeCount_7 rfl rfl ?_
      refine w_get d_MS_codeCount_8 f_MS_21 hp rfl ?_
      refine w_icmp_ge (tgt := 38) d_MS_codeCount_11 rfl (fun c11 => ?_) (fun c11 => ?_)
      · have c11 := (nI_leI (a := E.length) (b := i + 1) (by omega) (by omega)).mp c11
        refine w_iload_n d_MS_codeCount_38 rfl ?_
        rw [← hEN]
        refine w_iret d_MS_codeCount_39 rfl ?_
        rw [eSize_short (by rw [List.length_drop]; omega), Nat.add_zero] at h3
        rw [h3]
        exact ⟨rfl, rfl⟩
      · have c11 : i + 1 < E.length := Nat.not_le.mp (fun z => c11 ((nI_leI (a := E.length) (b := i + 1) (by omega) (by omega)).mpr z))
        obtain ⟨a, b, hab, ha1, hb1, hdr⟩ := eDrop2 hA c11
        refine w_iload_n d_MS_codeCount_14 rfl ?_
        refine w_aload_n d_MS_codeCount_15 rfl rfl ?_
        refine w_get d_MS_codeCount_16 f_MS_11 hp rfl ?_
        refine w_iload_n d_MS_codeCount_19 rfl ?_
        refine w_iconst (v := nI 1) d_MS_codeCount_20 (by decide) ?_
        refine w_iadd d_MS_codeCount_21 ?_
        refine w_topi (y := nI (i + 1)) (nI_add _ _) ?_
        refine w_iald d_MS_codeCount_22 ha (vp_in_nI (by omega) (by omega)) ?_
        refine w_topi (y := nI b) (by rw [nI_clamp (by omega)]; exact hf _ _ hb1) ?_
        refine w_aload_n d_MS_codeCount_23 rfl rfl ?_
        refine w_get d_MS_codeCount_24 f_MS_11 hp rfl ?_
        refine w_iload_n d_MS_codeCount_27 rfl ?_
        refine w_iald d_MS_codeCount_28 ha (vp_in_nI (by omega) (by omega)) ?_
        refine w_topi (y := nI a) (by rw [nI_clamp (by omega)]; exact hf _ _ ha1) ?_
        refine w_isub d_MS_codeCount_29 ?_
        refine w_topi (y := nI (b - a)) (pk_sub (Nat.le_of_lt hab)) ?_
        refine w_iadd d_MS_codeCount_30 ?_
        refine w_topi (y := nI (tot + (b - a))) (nI_add _ _) ?_
        refine w_istore_n d_MS_codeCount_31 (by decide) ?_
        refine w_iinc (v := nI (i + 2)) d_MS_codeCount_32 rfl (nI_add i 2) (by decide) ?_
        refine w_goto (tgt := 4) d_MS_codeCount_35 rfl ?_
        exact ih (i + 2) (tot + (b - a)) (by omega) (by omega) (by rw [hdr] at h3; simp only [eSize] at h3; omega)
  refine w_iconst (v := nI 0) d_MS_codeCount_0 (by decide) ?_
  refine w_istore_n d_MS_codeCount_1 (by decide) ?_
  refine w_iconst (v := nI 0) d_MS_codeCount_2 (by decide) ?_
  refine w_istore_n d_MS_codeCount_3 (by decide) ?_
  exact L (E.length + 1) 0 0 (by omega) (by omega) (by rw [List.drop_zero]; omega)
set_option maxHeartbeats 4000000 in
set_option maxRecDepth 100000 in
theorem m_MS_codeOfRank {h : wH} {p r0 : Nat} {E S : List Nat} (hm : hMS h p E S) (hA : eAsc E) (hE : ∀ y ∈ E, y < 2 ^ 31) (hr : r0 < 2 ^ 31) : PM X M_MS_codeOfRank 0 0 0 [.ref p, .int (nI r0)] h (fun r h' => r = some (.int (match eNth E r0 with | some x => nI x | none => -1)) ∧ h' = h) := by
  obtain ⟨f, kk, hp, ha, hb, hl1, hl2, hf, hk⟩ := hm
  refine PM.at (pl := [some (.ref p), some (.int (nI r0)), none, none, none]) rfl rfl (by simp [wle, wen]) ?_
  generalize hEN : wEm X 0 0 _ = EN
  have L : ∀ (n : Nat) (i left : Nat), (E.length - i < n) → (i ≤ E.length + 1) → (left < 2 ^ 31) → (eNth (E.drop i) left = eNth E r0) → WP X M_MS_codeOfRank (wR 0 0 0) 0 EN 0 0 4 [some (.ref p), some (.int (nI r0)), some (.int (nI left)), some (.int (nI i)), none] [] h := by
    intro n
    induction n with
    | zero => intro i left h1 h2 h4 h3; omega
    | succ n ih =>
      intro i left h1 h2 h4 h3
      refine w_iload_n d_MS_codeOfRank_4 rfl ?_
      refine w_iconst (v := nI 1) d_MS_codeOfRank_5 (by decide) ?_
      refine w_iadd d_MS_codeOfRank_6 ?_
      refine w_topi (y := nI (i + 1)) (nI_add _ _) ?_
      refine w_aload_n d_MS_codeOfRank_7 rfl rfl ?_
      refine w_get d_MS_codeOfRank_8 f_MS_21 hp rfl ?_
      refine w_icmp_ge (tgt := 57) d_MS_codeOfRank_11 rfl (fun c11 => ?_) (fun c11 => ?_)
      · have c11 := (nI_leI (a := E.length) (b := i + 1) (by omega) (by omega)).mp c11
        refine w_iconst (v := -1) d_MS_codeOfRank_57 (by decide) ?_
        rw [← hEN]
        refine w_iret d_MS_codeOfRank_58 rfl ?_
        rw [eNth_short (by rw [List.length_drop]; omega)] at h3
        rw [← h3]
        exact ⟨rfl, rfl⟩
      · have c11 : i + 1 < E.length := Nat.not_le.mp (fun z => c11 ((nI_leI (a := E.length) (b := i + 1) (by omega) (by omega)).mpr z))
        obtain ⟨a, b, hab, ha1, hb1, hdr⟩ := eDrop2 hA c11
        have hb31 := hE b (List.mem_of_getElem? hb1)
        rw [hdr] at h3
        simp only [eNth] at h3
        refine w_aload_n d_MS_codeOfRank_14 rfl rfl ?_
        refine w_get d_MS_codeOfRank_15 f_MS_11 hp rfl ?_
        refine w_iload_n d_MS_codeOfRank_18 rfl ?_
        refine w_iconst (v := nI 1) d_MS_codeOfRank_19 (by decide) ?_
        refine w_iadd d_MS_codeOfRank_20 ?_
        refine w_topi (y := nI (i + 1)) (nI_add _ _) ?_
        refine w_iald d_MS_codeOfRank_21 ha (vp_in_nI (by omega) (by omega)) ?_
        refine w_topi (y := nI b) (by rw [nI_clamp (by omega)]; exact hf _ _ hb1) ?_
        refine w_aload_n d_MS_codeOfRank_22 rfl rfl ?_
        refine w_get d_MS_codeOfRank_23 f_MS_11 hp rfl ?_
        refine w_iload_n d_MS_codeOfRank_26 rfl ?_
        refine w_iald d_MS_codeOfRank_27 ha (vp_in_nI (by omega) (by omega)) ?_
        refine w_topi (y := nI a) (by rw [nI_clamp (by omega)]; exact hf _ _ ha1) ?_
        refine w_isub d_MS_codeOfRank_28 ?_
        refine w_topi (y := nI (b - a)) (pk_sub (Nat.le_of_lt hab)) ?_
        refine w_istore d_MS_codeOfRank_29 (by decide) ?_
        refine w_iload_n d_MS_codeOfRank_31 rfl ?_
        refine w_iload d_MS_codeOfRank_32 rfl ?_
        refine w_icmp_ge (tgt := 46) d_MS_codeOfRank_34 rfl (fun c34 => ?_) (fun c34 => ?_)
        · have c34 := (nI_leI (a := b - a) (b := left) (by omega) (by omega)).mp c34
          rw [if_neg (by omega)] at h3
          refine w_iload_n d_MS_codeOfRank_46 rfl ?_
          refine w_iload d_MS_codeOfRank_47 rfl ?_
          refine w_isub d_MS_codeOfRank_49 ?_
          refine w_topi (y := nI (left - (b - a))) (pk_sub c34) ?_
          refine w_istore_n d_MS_codeOfRank_50 (by decide) ?_
          refine w_iinc (v := nI (i + 2)) d_MS_codeOfRank_51 rfl (nI_add i 2) (by decide) ?_
          refine w_goto (tgt := 4) d_MS_codeOfRank_54 rfl ?_
          refine w_le (pl' := [some (.ref p), some (.int (nI r0)), some (.int (nI (left - (b - a)))), some (.int (nI (i + 2))), none]) ⟨rfl, rfl, rfl, rfl, trivial⟩ ?_
          exact ih (i + 2) (left - (b - a)) (by omega) (by omega) (by omega) h3
        · have c34 : left < b - a := Nat.not_le.mp (fun z => c34 ((nI_leI (a := b - a) (b := left) (by omega) (by omega)).mpr z))
          rw [if_pos c34] at h3
          refine w_aload_n d_MS_codeOfRank_37 rfl rfl ?_
          refine w_get d_MS_codeOfRank_38 f_MS_11 hp rfl ?_
          refine w_iload_n d_MS_codeOfRank_41 rfl ?_
          refine w_iald d_MS_codeOfRank_42 ha (vp_in_nI (by omega) (by omega)) ?_
          refine w_topi (y := nI a) (by rw [nI_clamp (by omega)]; exact hf _ _ ha1) ?_
          refine w_iload_n d_MS_codeOfRank_43 rfl ?_
          refine w_iadd d_MS_codeOfRank_44 ?_
          refine w_topi (y := nI (a + left)) (nI_add _ _) ?_
          rw [← hEN]
          refine w_iret d_MS_codeOfRank_45 rfl ?_
          rw [← h3]
          exact ⟨rfl, rfl⟩
  refine w_iload_n d_MS_codeOfRank_0 rfl ?_
  refine w_istore_n d_MS_codeOfRank_1 (by decide) ?_
  refine w_iconst (v := nI 0) d_MS_codeOfRank_2 (by decide) ?_
  refine w_istore_n d_MS_codeOfRank_3 (by decide) ?_
  exact L (E.length + 1) 0 r0 (by omega) (by omega) hr (by rw [List.drop_zero])
end MS1
end
section
/-! MemberSet, two: written by wip/gen/ms2.py -/
section MS2
variable {X : wX}
theorem eAll_ok : eOk [0, 1114112] := ⟨by unfold eAsc; decide, fun x hx => by simp at hx; omega⟩
theorem eAll_mem (c : Nat) : eMem [0, 1114112] c = !decide (1114112 ≤ c) := by
  unfold eMem
  rw [eCnt_cons, eCnt_cons, eCnt_nil, if_pos (Nat.zero_le _)]
  by_cases h : 1114112 ≤ c
  · rw [if_pos h, decide_eq_true h]; rfl
  · rw [if_neg h, decide_eq_false h]; rfl
theorem eMem_sn2 {E : List Nat} (hA : eAsc E) {i y : Nat} (hy : E[i]? = some y) (c : Nat) : eMem (E.take i ++ [y]) c = (eMem (E.take i) c != decide (y ≤ c)) := by
  unfold eMem
  rw [eCnt_append, eCnt_cons, eCnt_nil]
  by_cases hc : y ≤ c
  · rw [if_pos hc, decide_eq_true hc]
    rcases Nat.mod_two_eq_zero_or_one (eCnt (E.take i) c) with z | z
    · rw [z, show (eCnt (E.take i) c + (1 + 0)) % 2 = 1 by omega]
      rfl
    · rw [z, show (eCnt (E.take i) c + (1 + 0)) % 2 = 0 by omega]
      rfl
  · rw [if_neg hc, decide_eq_false hc]
    simp
set_option maxHeartbeats 4000000 in
set_option maxRecDepth 100000 in
theorem m_MS_appendRange {h : wH} {p x y : Nat} {E S : List Nat} (hm : hMS h p E S) (hA : eAsc E) (hE : ∀ z ∈ E, z ≤ x) (hxy : x ≤ y) (hy : y + 1 < 2 ^ 31) (hlen : E.length < 399) : PM X M_MS_appendRange 1 0 0 [.ref p, .int (nI x), .int (nI y)] h (fun r h' => r = none ∧ hMS h' p (eTog (eTog E x) (y + 1)) S ∧ wOff h h' p 3) := by
  have hhm := hm; obtain ⟨hf, hk, hp, ha, hb, hl1, hl2, hhf, hhk⟩ := hm
  refine PM.at (pl := [some (.ref p), some (.int (nI x)), some (.int (nI y))]) rfl rfl (by simp [wle, wen]) ?_
  generalize hEN : wEm X 0 0 _ = EN
  refine w_aload_n d_MS_appendRange_0 rfl rfl ?_
  refine w_iload_n d_MS_appendRange_1 rfl ?_
  refine w_callV (as := [.int (nI x)]) (st := []) d_MS_appendRange_2 yM_MS_toggleEdge l_MS_37 vM_MS_toggleEdge hp rfl rfl rfl rfl (m_MS_toggle hhm (fun z hz => by have := hE z hz; omega) (by omega) (by omega)) (by decide) (by decide) (by decide) (by decide) (Nat.le_of_ble_eq_true rfl) ?_
  rintro _ h1 ⟨rfl, hm1, ho1⟩
  refine w_eq (st' := []) rfl ?_
  have gm := hm1; obtain ⟨gf, gk, gp, ga, gb, gl1, gl2, ghf, ghk⟩ := hm1
  have ht := eTog_ok hA hE
  have hl9 := eTog_len E x
  refine w_aload_n d_MS_appendRange_5 rfl rfl ?_
  refine w_iload_n d_MS_appendRange_6 rfl ?_
  refine w_iconst (v := nI 1) d_MS_appendRange_7 (by decide) ?_
  refine w_iadd d_MS_appendRange_8 ?_
  refine w_topi (y := nI (y + 1)) (nI_add _ _) ?_
  refine w_callV (as := [.int (nI (y + 1))]) (st := []) d_MS_appendRange_9 yM_MS_toggleEdge l_MS_37 vM_MS_toggleEdge gp rfl rfl rfl rfl (m_MS_toggle gm (fun z hz => by have := ht.2.1 z hz; omega) hy (by omega)) (by decide) (by decide) (by decide) (by decide) (Nat.le_of_ble_eq_true rfl) ?_
  rintro _ h2 ⟨rfl, hm2, ho2⟩
  refine w_eq (st' := []) rfl ?_
  rw [← hEN]
  refine w_vret d_MS_appendRange_12 rfl ?_
  exact ⟨rfl, hm2, ho1.tr ho2⟩
set_option maxHeartbeats 4000000 in
set_option maxRecDepth 100000 in
theorem m_MS_becomeString {h : wH} {p x : Nat} {E S : List Nat} (hm : hMS h p E S) : PM X M_MS_becomeString 1 0 0 [.ref p, .long (lN x)] h (fun r h' => r = none ∧ hMS h' p [] [x] ∧ wOff h h' p 3) := by
  have hhm := hm; obtain ⟨hf, hk, hp, ha, hb, hl1, hl2, hhf, hhk⟩ := hm
  refine PM.at (pl := [some (.ref p), some (.long (lN x)), none]) rfl rfl (by simp [wle, wen]) ?_
  generalize hEN : wEm X 0 0 _ = EN
  refine w_aload_n d_MS_becomeString_0 rfl rfl ?_
  refine w_callV (as := []) (st := []) d_MS_becomeString_1 yM_MS_clear l_MS_34 vM_MS_clear hp rfl rfl rfl rfl (m_MS_clear hhm) (by decide) (by decide) (by decide) (by decide) (Nat.le_of_ble_eq_true rfl) ?_
  rintro _ h1 ⟨rfl, hm1, ho1⟩
  refine w_eq (st' := []) rfl ?_
  have gm := hm1; obtain ⟨gf, gk, gp, ga, gb, gl1, gl2, ghf, ghk⟩ := hm1
  refine w_aload_n d_MS_becomeString_4 rfl rfl ?_
  refine w_lload_n d_MS_becomeString_5 rfl ?_
  refine w_callV (as := [.long (lN x)]) (st := []) d_MS_becomeString_6 yM_MS_appendKey l_MS_41 vM_MS_appendKey gp rfl rfl rfl rfl (m_MS_appendKey gm (by decide)) (by decide) (by decide) (by decide) (by decide) (Nat.le_of_ble_eq_true rfl) ?_
  rintro _ h2 ⟨rfl, hm2, ho2⟩
  refine w_eq (st' := []) rfl ?_
  rw [← hEN]
  refine w_vret d_MS_becomeString_9 rfl ?_
  exact ⟨rfl, hm2, ho1.tr ho2⟩
set_option maxHeartbeats 4000000 in
set_option maxRecDepth 100000 in
theorem m_MS_becomeOthers {h : wH} {p q : Nat} {E0 S0 E S : List Nat} (hm : hMS h p E0 S0) (hq : hMS h q E S) (hd : p + 3 ≤ q ∨ q + 3 ≤ p) (hE : eOk E) (hlen : E.length < 398) : PM X M_MS_becomeOthers 1 0 0 [.ref p, .ref q] h (fun r h' => r = none ∧ hMS h' p (eCmb 3 E [0, 1114112]) [] ∧ wOff h h' p 3) := by
  have hhm := hm; obtain ⟨hf, hk, hp, ha, hb, hl1, hl2, hhf, hhk⟩ := hm
  have ghm := hq; obtain ⟨gf, gk, gp, ga, gb, gl1, gl2, ghf, ghk⟩ := hq
  refine PM.at (pl := [some (.ref p), some (.ref q), none]) rfl rfl (by simp [wle, wen]) ?_
  generalize hEN : wEm X 0 0 _ = EN
  have L : ∀ (n : Nat) (i : Nat) (h3 : wH) (A : List Nat), (E.length - i < n) → (i ≤ E.length) → (hMS h3 p A []) → (wOff h h3 p 3) → (eAsc A) → (∀ y ∈ A, ∀ b z, i ≤ b → E[b]? = some z → y ≤ z) → (∀ y ∈ A, y ≤ 1114112) → (A.length ≤ i + 1) → (∀ c, eMem A c = (eMem (E.take i) c != true)) → WP X M_MS_becomeOthers (wR 1 0 0) 0 EN 0 0 11 [some (.ref p), some (.ref q), some (.int (nI i))] [] h3 := by
    intro n
    induction n with
    | zero => intro i h3 A k1 k2 k3 k4 k5 k6 k7 k8 k9; omega
    | succ n ih =>
      intro i h3 A k1 k2 k3 k4 k5 k6 k7 k8 k9
      obtain ⟨qf, qk, qp, qa, qb, ql1, ql2, qhf, qhk⟩ := ghm.off k4 (by omega)
      have rm := k3; obtain ⟨rf, rk, rp, ra, rb, rl1, rl2, rhf, rhk⟩ := rm
      refine w_iload_n d_MS_becomeOthers_11 rfl ?_
      refine w_aload_n d_MS_becomeOthers_12 rfl rfl ?_
      refine w_get d_MS_becomeOthers_13 f_MS_21 qp rfl ?_
      refine w_icmp_ge (tgt := 35) d_MS_becomeOthers_16 rfl (fun c16 => ?_) (fun c16 => ?_)
      · have c16 := (nI_leI (a := E.length) (b := i) (by omega) (by omega)).mp c16
        have hi : i = E.length := by omega
        refine w_aload_n d_MS_becomeOthers_35 rfl rfl ?_
        refine w_ldc (v := nI 1114112) d_MS_becomeOthers_36 k_MS_45 ?_
        refine w_callV (as := [.int (nI 1114112)]) (st := []) d_MS_becomeOthers_38 yM_MS_toggleEdge l_MS_37 vM_MS_toggleEdge rp rfl rfl rfl rfl (m_MS_toggle k3 (fun z hz => by have := k7 z hz; omega) (by omega) (by omega)) (by decide) (by decide) (by decide) (by decide) (Nat.le_of_ble_eq_true rfl) ?_
        rintro _ h5 ⟨rfl, hm5, ho5⟩
        refine w_eq (st' := []) rfl ?_
        rw [← hEN]
        refine w_vret d_MS_becomeOthers_41 rfl ?_
        have hT := eTog_ok k5 k7
        refine ⟨rfl, ?_, k4.tr ho5⟩
        rw [← eCmb_eq (E := eTog A 1114112) hE eAll_ok hT.1 (fun c => ?_)]
        · exact hm5
        · rw [hT.2.2, k9, hi, List.take_length, eAll_mem]
          cases eMem E c <;> by_cases hc : 1114112 ≤ c <;> simp [hc, eDec]
      · have c16 : i < E.length := Nat.not_le.mp (fun z => c16 ((nI_leI (a := E.length) (b := i) (by omega) (by omega)).mpr z))
        obtain ⟨y, hy⟩ : ∃ y, E[i]? = some y := ⟨_, List.getElem?_eq_getElem c16⟩
        have hy31 := hE.2 y (List.mem_of_getElem? hy)
        have hT := eTog_ok k5 (fun a ha => k6 a ha i y (Nat.le_refl _) hy)
        refine w_aload_n d_MS_becomeOthers_19 rfl rfl ?_
        refine w_aload_n d_MS_becomeOthers_20 rfl rfl ?_
        refine w_get d_MS_becomeOthers_21 f_MS_11 qp rfl ?_
        refine w_iload_n d_MS_becomeOthers_24 rfl ?_
        refine w_iald d_MS_becomeOthers_25 qa (vp_in_nI (by omega) (by omega)) ?_
        refine w_topi (y := nI y) (by rw [nI_clamp (by omega)]; exact qhf _ _ hy) ?_
        refine w_callV (as := [.int (nI y)]) (st := []) d_MS_becomeOthers_26 yM_MS_toggleEdge l_MS_37 vM_MS_toggleEdge rp rfl rfl rfl rfl (m_MS_toggle k3 (fun z hz => by have := k7 z hz; omega) (by omega) (by omega)) (by decide) (by decide) (by decide) (by decide) (Nat.le_of_ble_eq_true rfl) ?_
        rintro _ h4 ⟨rfl, hm4, ho4⟩
        refine w_eq (st' := []) rfl ?_
        refine w_iinc (v := nI (i + 1)) d_MS_becomeOthers_29 rfl (nI_1 _) (by decide) ?_
        refine w_goto (tgt := 11) d_MS_becomeOthers_32 rfl ?_
        refine ih (i + 1) h4 (eTog A y) (by omega) (by omega) hm4 (k4.tr ho4) hT.1 (fun a ha b z hb hz => ?_) (fun a ha => ?_) (Nat.le_trans (eTog_len A y) (by omega)) (fun c => ?_)
        · exact Nat.le_trans (hT.2.1 a ha) (Nat.le_of_lt (eAsc_lt hE.1 (by omega) hy hz))
        · exact Nat.le_trans (hT.2.1 a ha) hy31
        · rw [hT.2.2, k9, eTake_succ hy, eMem_sn2 hE.1 hy c]
          cases eMem (E.take i) c <;> by_cases hc : y ≤ c <;> simp [hc]
  refine w_aload_n d_MS_becomeOthers_0 rfl rfl ?_
  refine w_callV (as := []) (st := []) d_MS_becomeOthers_1 yM_MS_clear l_MS_34 vM_MS_clear hp rfl rfl rfl rfl (m_MS_clear hhm) (by decide) (by decide) (by decide) (by decide) (Nat.le_of_ble_eq_true rfl) ?_
  rintro _ h1 ⟨rfl, hm1, ho1⟩
  refine w_eq (st' := []) rfl ?_
  have zm := hm1; obtain ⟨zf, zk, zp, za, zb, zl1, zl2, zhf, zhk⟩ := hm1
  refine w_aload_n d_MS_becomeOthers_4 rfl rfl ?_
  refine w_iconst (v := nI 0) d_MS_becomeOthers_5 (by decide) ?_
  refine w_callV (as := [.int (nI 0)]) (st := []) d_MS_becomeOthers_6 yM_MS_toggleEdge l_MS_37 vM_MS_toggleEdge zp rfl rfl rfl rfl (m_MS_toggle zm (fun z hz => by cases hz) (by decide) (by decide)) (by decide) (by decide) (by decide) (by decide) (Nat.le_of_ble_eq_true rfl) ?_
  rintro _ h2 ⟨rfl, hm2, ho2⟩
  refine w_eq (st' := []) rfl ?_
  refine w_iconst (v := nI 0) d_MS_becomeOthers_9 (by decide) ?_
  refine w_istore_n d_MS_becomeOthers_10 (by decide) ?_
  refine L (E.length + 1) 0 h2 [0] (by omega) (Nat.zero_le _) hm2 (ho1.tr ho2) (List.pairwise_singleton _ _) (fun y hy b z _ _ => by rw [List.mem_singleton] at hy; omega) (fun y hy => by rw [List.mem_singleton] at hy; omega) (by decide) (fun c => ?_)
  rw [List.take_zero]
  simp [eMem, eCnt]
end MS2
end
section
/-! MemberSet, three: merges: written by wip/gen/ms3.py -/
theorem bI_and1 (n : Nat) (h : n < 2 ^ 31) : nI n &&& nI 1 = nI (n % 2) := pk_andN (m := nI 1) (by omega) 1 (by decide)
theorem bI_eq (a b : Bool) : bI a = bI b ↔ a = b := by cases a <;> cases b <;> decide
theorem bI_odd1 {n : Nat} (h : n % 2 = 1) : bI (eOdd n) = nI 1 := by unfold eOdd; rw [h]; rfl
theorem bI_odd0 {n : Nat} (h : ¬ n % 2 = 1) : bI (eOdd n) = nI 0 := by unfold eOdd; rw [show n % 2 = 0 by omega]; rfl
theorem mg1 {L : List Nat} {i a x M : Nat} (haa : (i < L.length ∧ L[i]? = some a) ∨ (L.length ≤ i ∧ a = M)) (hx : x ≤ a) (hne : ¬ a = x ∨ L.length ≤ i) : ∀ z, L[i]? = some z → x < z := by
  intro z hz
  rcases haa with ⟨h1, h2⟩ | ⟨h1, -⟩
  · rw [h2] at hz
    cases hz
    omega
  · rw [List.getElem?_eq_none h1] at hz
    cases hz
theorem mg2 {L : List Nat} {i a x M : Nat} (haa : (i < L.length ∧ L[i]? = some a) ∨ (L.length ≤ i ∧ a = M)) (h : i < L.length) (e : a = x) : L[i]? = some x := by
  rcases haa with ⟨-, h2⟩ | ⟨h1, -⟩
  · rw [h2, e]
  · omega
theorem mg3 {L R : List Nat} {i j i' j' a b x M : Nat} (haa : (i < L.length ∧ L[i]? = some a) ∨ (L.length ≤ i ∧ a = M)) (hbb : (j < R.length ∧ R[j]? = some b) ∨ (R.length ≤ j ∧ b = M)) (hxx : (x = a ∧ a < b) ∨ (x = b ∧ b ≤ a)) (hij : i < L.length ∨ j < R.length) (ha : a ≤ M) (hb : b ≤ M)
    (hi : (i' = i ∧ ∀ z, L[i]? = some z → x < z) ∨ (i' = i + 1 ∧ L[i]? = some x)) (hj : (j' = j ∧ ∀ z, R[j]? = some z → x < z) ∨ (j' = j + 1 ∧ R[j]? = some x)) : i' ≠ i ∨ j' ≠ j := by
  rcases hi with ⟨e1, m1⟩ | ⟨e1, -⟩
  · rcases hj with ⟨e2, m2⟩ | ⟨e2, -⟩
    · exfalso
      rcases haa with ⟨h1, h2⟩ | ⟨h1, h2⟩
      · have := m1 a h2
        rcases hbb with ⟨h3, h4⟩ | ⟨h3, h4⟩
        · have := m2 b h4
          omega
        · omega
      · rcases hbb with ⟨h3, h4⟩ | ⟨h3, h4⟩
        · have := m2 b h4
          omega
        · omega
    · exact Or.inr (by omega)
  · exact Or.inl (by omega)
theorem mg4 {L R : List Nat} {i j i' j' x : Nat} (hi : (i' = i ∧ ∀ z, L[i]? = some z → x < z) ∨ (i' = i + 1 ∧ L[i]? = some x)) (hj : (j' = j ∧ ∀ z, R[j]? = some z → x < z) ∨ (j' = j + 1 ∧ R[j]? = some x)) (hne : i' ≠ i ∨ j' ≠ j) : i + j + 1 ≤ i' + j' ∧ i' ≤ i + 1 ∧ j' ≤ j + 1 := by
  rcases hi with ⟨e1, -⟩ | ⟨e1, -⟩ <;> rcases hj with ⟨e2, -⟩ | ⟨e2, -⟩ <;> omega
theorem mk1 {L R : List Nat} {i j a b x M : Nat} (haa : (i < L.length ∧ L[i]? = some a) ∨ (L.length ≤ i ∧ a = M)) (hbb : (j < R.length ∧ R[j]? = some b) ∨ (R.length ≤ j ∧ b = M)) (hxx : (x = a ∧ a < b) ∨ (x = b ∧ b ≤ a)) (hij : i < L.length ∨ j < R.length) (hL : ∀ y ∈ L, y < M) (hR : ∀ y ∈ R, y < M) : x < M := by
  rcases haa with ⟨h1, h2⟩ | ⟨h1, h2⟩
  · have := hL a (List.mem_of_getElem? h2)
    omega
  · rcases hbb with ⟨h3, h4⟩ | ⟨h3, h4⟩
    · have := hR b (List.mem_of_getElem? h4)
      omega
    · omega
theorem mk2 {L : List Nat} {i a x M : Nat} (haa : (i < L.length ∧ L[i]? = some a) ∨ (L.length ≤ i ∧ a = M)) (hx : x ≤ a) (hxM : x < M) : (¬ a = x → ∀ z, L[i]? = some z → x < z) ∧ (a = x → L[i]? = some x) := by
  refine ⟨fun h => mg1 haa hx (Or.inl h), fun h => ?_⟩
  rcases haa with ⟨-, h2⟩ | ⟨-, h2⟩
  · rw [h2, h]
  · omega
section MS3
variable {X : wX}
set_option maxHeartbeats 4000000 in
set_option maxRecDepth 100000 in
theorem m_MS_mergeEdges {h : wH} {p q r how : Nat} {S0 L SL R SR : List Nat} (hm : hMS h p [] S0) (hq : hMS h q L SL) (hr : hMS h r R SR) (hdq : p + 3 ≤ q ∨ q + 3 ≤ p) (hdr : p + 3 ≤ r ∨ r + 3 ≤ p) (hL : eOk L) (hR : eOk R) (hlen : L.length + R.length ≤ 400) (hh : how ≤ 3) : PM X M_MS_mergeEdges 1 0 0 [.ref p, .ref q, .ref r, .int (nI how)] h (fun z h' => z = none ∧ hMS h' p (eCmb how L R) S0 ∧ wOff h h' p 3) := by
  have hhm := hm; obtain ⟨hf, hk, hp, ha, hb, hl1, hl2, hhf, hhk⟩ := hm
  have uhm := hq; obtain ⟨uf, uk, up, ua, ub, ul1, ul2, uhf, uhk⟩ := hq
  have vhm := hr; obtain ⟨vf, vk, vp, va, vb, vl1, vl2, vhf, vhk⟩ := hr
  refine PM.at (pl := [some (.ref p), some (.ref q), some (.ref r), some (.int (nI how)), none, none, none, none, none, none, none, none, none]) rfl rfl (by simp [wle, wen]) ?_
  generalize hEN : wEm X 0 0 _ = EN
  have LP : ∀ (n : Nat) (i j s : Nat) (ins : Bool) (acc : List Nat) (h3 : wH), (L.length + R.length - (i + j) < n) → (s ≤ i + j) → (hMS h3 p acc S0) → (wOff h h3 p 3) → (eInv how L R i j ins acc) → WP X M_MS_mergeEdges (wR 1 0 0) 0 EN 0 0 23 [some (.ref p), some (.ref q), some (.ref r), some (.int (nI how)), some (.int (nI i)), some (.int (nI j)), some (.int (bI ins)), some (.int (nI (L.length + R.length))), some (.int (nI s)), none, none, none, none] [] h3 := by
    intro n
    induction n with
    | zero => intro i j s ins acc h3 k1 k2 k3 k4 k5; omega
    | succ n ih =>
      intro i j s ins acc h3 k1 k2 k3 k4 k5
      obtain ⟨gf, gk, gp, ga, gb, gl1, gl2, ghf, ghk⟩ := uhm.off k4 (by omega)
      obtain ⟨wf, wk, wp, wa, wb, wl1, wl2, whf, whk⟩ := vhm.off k4 (by omega)
      have tm := k3; obtain ⟨tf, tk, tp, ta, tb, tl1, tl2, thf, thk⟩ := tm
      have q1 := k5.1
      have q2 := k5.2.1
      have q6 := k5.2.2.2.2.2.1
      refine w_iload d_MS_mergeEdges_23 rfl ?_
      refine w_iload d_MS_mergeEdges_25 rfl ?_
      refine w_icmp_ge (tgt := 203) d_MS_mergeEdges_27 rfl (fun c27 => ?_) (fun c27 => ?_)
      · have c27 := (nI_leI (a := L.length + R.length) (b := s) (by omega) (by omega)).mp c27
        rw [← hEN]
        refine w_vret d_MS_mergeEdges_203 rfl ?_
        have hi9 : i = L.length := by omega
        have hj9 : j = R.length := by omega
        subst hi9; subst hj9
        have hz := eInv_end k5
        refine ⟨rfl, ?_, k4⟩
        rw [← eCmb_eq hL hR hz.1 hz.2.2.2]
        exact k3
      · have c27 : s < L.length + R.length := Nat.not_le.mp (fun z => c27 ((nI_leI (a := L.length + R.length) (b := s) (by omega) (by omega)).mpr z))
        refine w_iload d_MS_mergeEdges_30 rfl ?_
        refine w_aload_n d_MS_mergeEdges_32 rfl rfl ?_
        refine w_get d_MS_mergeEdges_33 f_MS_21 gp rfl ?_
        suffices J48 : (i < L.length ∨ j < R.length) → WP X M_MS_mergeEdges (wR 1 0 0) 0 EN 0 0 48 [some (.ref p), some (.ref q), some (.ref r), some (.int (nI how)), some (.int (nI i)), some (.int (nI j)), some (.int (bI ins)), some (.int (nI (L.length + R.length))), some (.int (nI s)), none, none, none, none] [] h3 by
          refine w_icmp_lt (tgt := 48) d_MS_mergeEdges_36 rfl (fun c36 => ?_) (fun c36 => ?_)
          · have c36 := (nI_ltI (a := i) (b := L.length) (by omega) (by omega)).mp c36
            exact J48 (Or.inl c36)
          · have c36 : ¬ i < L.length := fun z => c36 ((nI_ltI (a := i) (b := L.length) (by omega) (by omega)).mpr z)
            refine w_iload d_MS_mergeEdges_39 rfl ?_
            refine w_aload_n d_MS_mergeEdges_41 rfl rfl ?_
            refine w_get d_MS_mergeEdges_42 f_MS_21 wp rfl ?_
            refine w_icmp_ge (tgt := 203) d_MS_mergeEdges_45 rfl (fun c45 => ?_) (fun c45 => ?_)
            · have c45 := (nI_leI (a := R.length) (b := j) (by omega) (by omega)).mp c45
              rw [← hEN]
              refine w_vret d_MS_mergeEdges_203 rfl ?_
              have hi9 : i = L.length := by omega
              have hj9 : j = R.length := by omega
              subst hi9; subst hj9
              have hz := eInv_end k5
              refine ⟨rfl, ?_, k4⟩
              rw [← eCmb_eq hL hR hz.1 hz.2.2.2]
              exact k3
            · have c45 : j < R.length := Nat.not_le.mp (fun z => c45 ((nI_leI (a := R.length) (b := j) (by omega) (by omega)).mpr z))
              exact J48 (Or.inr c45)
        intro hij
        refine w_iload d_MS_mergeEdges_48 rfl ?_
        refine w_aload_n d_MS_mergeEdges_50 rfl rfl ?_
        refine w_get d_MS_mergeEdges_51 f_MS_21 gp rfl ?_
        suffices J69 : ∀ a : Nat, ((i < L.length ∧ L[i]? = some a) ∨ (L.length ≤ i ∧ a = 1114112)) → WP X M_MS_mergeEdges (wR 1 0 0) 0 EN 0 0 69 [some (.ref p), some (.ref q), some (.ref r), some (.int (nI how)), some (.int (nI i)), some (.int (nI j)), some (.int (bI ins)), some (.int (nI (L.length + R.length))), some (.int (nI s)), none, none, none, none] [.int (nI a)] h3 by
          refine w_icmp_ge (tgt := 67) d_MS_mergeEdges_54 rfl (fun c54 => ?_) (fun c54 => ?_)
          · have c54 := (nI_leI (a := L.length) (b := i) (by omega) (by omega)).mp c54
            refine w_ldc (v := nI 1114112) d_MS_mergeEdges_67 k_MS_45 ?_
            exact J69 1114112 (Or.inr ⟨c54, rfl⟩)
          · have c54 : i < L.length := Nat.not_le.mp (fun z => c54 ((nI_leI (a := L.length) (b := i) (by omega) (by omega)).mpr z))
            obtain ⟨y, hy⟩ : ∃ y, L[i]? = some y := ⟨_, List.getElem?_eq_getElem c54⟩
            refine w_aload_n d_MS_mergeEdges_57 rfl rfl ?_
            refine w_get d_MS_mergeEdges_58 f_MS_11 gp rfl ?_
            refine w_iload d_MS_mergeEdges_61 rfl ?_
            refine w_iald d_MS_mergeEdges_63 ga (vp_in_nI (by omega) (by omega)) ?_
            refine w_topi (y := nI y) (by rw [nI_clamp (by omega)]; exact ghf _ _ hy) ?_
            refine w_goto (tgt := 69) d_MS_mergeEdges_64 rfl ?_
            exact J69 y (Or.inl ⟨c54, hy⟩)
        intro a haa
        have ha31 : a ≤ 1114112 := by
          rcases haa with ⟨-, z⟩ | ⟨-, z⟩
          · exact hL.2 a (List.mem_of_getElem? z)
          · omega
        refine w_istore d_MS_mergeEdges_69 (by decide) ?_
        refine w_iload d_MS_mergeEdges_71 rfl ?_
        refine w_aload_n d_MS_mergeEdges_73 rfl rfl ?_
        refine w_get d_MS_mergeEdges_74 f_MS_21 wp rfl ?_
        suffices J92 : ∀ b : Nat, ((j < R.length ∧ R[j]? = some b) ∨ (R.length ≤ j ∧ b = 1114112)) → WP X M_MS_mergeEdges (wR 1 0 0) 0 EN 0 0 92 [some (.ref p), some (.ref q), some (.ref r), some (.int (nI how)), some (.int (nI i)), some (.int (nI j)), some (.int (bI ins)), some (.int (nI (L.length + R.length))), some (.int (nI s)), some (.int (nI a)), none, none, none] [.int (nI b)] h3 by
          refine w_icmp_ge (tgt := 90) d_MS_mergeEdges_77 rfl (fun c77 => ?_) (fun c77 => ?_)
          · have c77 := (nI_leI (a := R.length) (b := j) (by omega) (by omega)).mp c77
            refine w_ldc (v := nI 1114112) d_MS_mergeEdges_90 k_MS_45 ?_
            exact J92 1114112 (Or.inr ⟨c77, rfl⟩)
          · have c77 : j < R.length := Nat.not_le.mp (fun z => c77 ((nI_leI (a := R.length) (b := j) (by omega) (by omega)).mpr z))
            obtain ⟨y, hy⟩ : ∃ y, R[j]? = some y := ⟨_, List.getElem?_eq_getElem c77⟩
            refine w_aload_n d_MS_mergeEdges_80 rfl rfl ?_
            refine w_get d_MS_mergeEdges_81 f_MS_11 wp rfl ?_
            refine w_iload d_MS_mergeEdges_84 rfl ?_
            refine w_iald d_MS_mergeEdges_86 wa (vp_in_nI (by omega) (by omega)) ?_
            refine w_topi (y := nI y) (by rw [nI_clamp (by omega)]; exact whf _ _ hy) ?_
            refine w_goto (tgt := 92) d_MS_mergeEdges_87 rfl ?_
            exact J92 y (Or.inl ⟨c77, hy⟩)
        intro b hbb
        have hb31 : b ≤ 1114112 := by
          rcases hbb with ⟨-, z⟩ | ⟨-, z⟩
          · exact hR.2 b (List.mem_of_getElem? z)
          · omega
        refine w_istore d_MS_mergeEdges_92 (by decide) ?_
        refine w_iload d_MS_mergeEdges_94 rfl ?_
        refine w_iload d_MS_mergeEdges_96 rfl ?_
        suffices J108 : ∀ x : Nat, ((x = a ∧ a < b) ∨ (x = b ∧ b ≤ a)) → WP X M_MS_mergeEdges (wR 1 0 0) 0 EN 0 0 108 [some (.ref p), some (.ref q), some (.ref r), some (.int (nI how)), some (.int (nI i)), some (.int (nI j)), some (.int (bI ins)), some (.int (nI (L.length + R.length))), some (.int (nI s)), some (.int (nI a)), some (.int (nI b)), none, none] [.int (nI x)] h3 by
          refine w_icmp_ge (tgt := 106) d_MS_mergeEdges_98 rfl (fun c98 => ?_) (fun c98 => ?_)
          · have c98 := (nI_leI (a := b) (b := a) (by omega) (by omega)).mp c98
            refine w_iload d_MS_mergeEdges_106 rfl ?_
            exact J108 b (Or.inr ⟨rfl, c98⟩)
          · have c98 : a < b := Nat.not_le.mp (fun z => c98 ((nI_leI (a := b) (b := a) (by omega) (by omega)).mpr z))
            refine w_iload d_MS_mergeEdges_101 rfl ?_
            refine w_goto (tgt := 108) d_MS_mergeEdges_103 rfl ?_
            exact J108 a (Or.inl ⟨rfl, c98⟩)
        intro x hxx
        refine w_istore d_MS_mergeEdges_108 (by decide) ?_
        refine w_iload d_MS_mergeEdges_110 rfl ?_
        refine w_iload d_MS_mergeEdges_112 rfl ?_
        suffices J129 : ∀ i' : Nat, ((i' = i ∧ ∀ z, L[i]? = some z → x < z) ∨ (i' = i + 1 ∧ L[i]? = some x)) → WP X M_MS_mergeEdges (wR 1 0 0) 0 EN 0 0 129 [some (.ref p), some (.ref q), some (.ref r), some (.int (nI how)), some (.int (nI i')), some (.int (nI j)), some (.int (bI ins)), some (.int (nI (L.length + R.length))), some (.int (nI s)), some (.int (nI a)), some (.int (nI b)), some (.int (nI x)), none] [] h3 by
          refine w_icmp_ne (tgt := 129) d_MS_mergeEdges_114 rfl (fun c114 => ?_) (fun c114 => ?_)
          · have c114 : ¬ a = x := fun z => c114 (by rw [z])
            exact J129 i (Or.inl ⟨rfl, mg1 haa (by omega) (Or.inl c114)⟩)
          · have c114 : a = x := (nI_eq (by omega) (by omega)).mp c114
            refine w_iload d_MS_mergeEdges_117 rfl ?_
            refine w_aload_n d_MS_mergeEdges_119 rfl rfl ?_
            refine w_get d_MS_mergeEdges_120 f_MS_21 gp rfl ?_
            refine w_icmp_ge (tgt := 129) d_MS_mergeEdges_123 rfl (fun c123 => ?_) (fun c123 => ?_)
            · have c123 := (nI_leI (a := L.length) (b := i) (by omega) (by omega)).mp c123
              exact J129 i (Or.inl ⟨rfl, mg1 haa (by omega) (Or.inr c123)⟩)
            · have c123 : i < L.length := Nat.not_le.mp (fun z => c123 ((nI_leI (a := L.length) (b := i) (by omega) (by omega)).mpr z))
              refine w_iinc (v := nI (i + 1)) d_MS_mergeEdges_126 rfl (nI_1 _) (by decide) ?_
              exact J129 (i + 1) (Or.inr ⟨rfl, mg2 haa c123 c114⟩)
        intro i' hi'
        refine w_iload d_MS_mergeEdges_129 rfl ?_
        refine w_iload d_MS_mergeEdges_131 rfl ?_
        suffices J148 : ∀ j' : Nat, ((j' = j ∧ ∀ z, R[j]? = some z → x < z) ∨ (j' = j + 1 ∧ R[j]? = some x)) → WP X M_MS_mergeEdges (wR 1 0 0) 0 EN 0 0 148 [some (.ref p), some (.ref q), some (.ref r), some (.int (nI how)), some (.int (nI i')), some (.int (nI j')), some (.int (bI ins)), some (.int (nI (L.length + R.length))), some (.int (nI s)), some (.int (nI a)), some (.int (nI b)), some (.int (nI x)), none] [] h3 by
          refine w_icmp_ne (tgt := 148) d_MS_mergeEdges_133 rfl (fun c133 => ?_) (fun c133 => ?_)
          · have c133 : ¬ b = x := fun z => c133 (by rw [z])
            exact J148 j (Or.inl ⟨rfl, mg1 hbb (by omega) (Or.inl c133)⟩)
          · have c133 : b = x := (nI_eq (by omega) (by omega)).mp c133
            refine w_iload d_MS_mergeEdges_136 rfl ?_
            refine w_aload_n d_MS_mergeEdges_138 rfl rfl ?_
            refine w_get d_MS_mergeEdges_139 f_MS_21 wp rfl ?_
            refine w_icmp_ge (tgt := 148) d_MS_mergeEdges_142 rfl (fun c142 => ?_) (fun c142 => ?_)
            · have c142 := (nI_leI (a := R.length) (b := j) (by omega) (by omega)).mp c142
              exact J148 j (Or.inl ⟨rfl, mg1 hbb (by omega) (Or.inr c142)⟩)
            · have c142 : j < R.length := Nat.not_le.mp (fun z => c142 ((nI_leI (a := R.length) (b := j) (by omega) (by omega)).mpr z))
              refine w_iinc (v := nI (j + 1)) d_MS_mergeEdges_145 rfl (nI_1 _) (by decide) ?_
              exact J148 (j + 1) (Or.inr ⟨rfl, mg2 hbb c142 c133⟩)
        intro j' hj'
        have hne := mg3 haa hbb hxx hij ha31 hb31 hi' hj'
        have hcnt := mg4 hi' hj' hne
        have hst := eInv_step hL.1 hR.1 k5 hi' hj' hne
        have hlt := eInv_lt hL.1 hR.1 k5 hi' hj' hne
        refine w_iload d_MS_mergeEdges_148 rfl ?_
        refine w_iconst (v := nI 1) d_MS_mergeEdges_150 (by decide) ?_
        refine w_iand d_MS_mergeEdges_151 ?_
        refine w_topi (y := nI (i' % 2)) (bI_and1 _ (by omega)) ?_
        refine w_iconst (v := nI 1) d_MS_mergeEdges_152 (by decide) ?_
        suffices J161 : WP X M_MS_mergeEdges (wR 1 0 0) 0 EN 0 0 161 [some (.ref p), some (.ref q), some (.ref r), some (.int (nI how)), some (.int (nI i')), some (.int (nI j')), some (.int (bI ins)), some (.int (nI (L.length + R.length))), some (.int (nI s)), some (.int (nI a)), some (.int (nI b)), some (.int (nI x)), none] [.int (bI (eOdd i'))] h3 by
          refine w_icmp_ne (tgt := 160) d_MS_mergeEdges_153 rfl (fun c153 => ?_) (fun c153 => ?_)
          · have c153 : ¬ i' % 2 = 1 := fun z => c153 (by rw [z])
            refine w_iconst (v := nI 0) d_MS_mergeEdges_160 (by decide) ?_
            rw [bI_odd0 c153] at J161; exact J161
          · have c153 : i' % 2 = 1 := (nI_eq (by omega) (by omega)).mp c153
            refine w_iconst (v := nI 1) d_MS_mergeEdges_156 (by decide) ?_
            refine w_goto (tgt := 161) d_MS_mergeEdges_157 rfl ?_
            rw [bI_odd1 c153] at J161; exact J161
        refine w_iload d_MS_mergeEdges_161 rfl ?_
        refine w_iconst (v := nI 1) d_MS_mergeEdges_163 (by decide) ?_
        refine w_iand d_MS_mergeEdges_164 ?_
        refine w_topi (y := nI (j' % 2)) (bI_and1 _ (by omega)) ?_
        refine w_iconst (v := nI 1) d_MS_mergeEdges_165 (by decide) ?_
        suffices J174 : WP X M_MS_mergeEdges (wR 1 0 0) 0 EN 0 0 174 [some (.ref p), some (.ref q), some (.ref r), some (.int (nI how)), some (.int (nI i')), some (.int (nI j')), some (.int (bI ins)), some (.int (nI (L.length + R.length))), some (.int (nI s)), some (.int (nI a)), some (.int (nI b)), some (.int (nI x)), none] [.int (bI (eOdd j')), .int (bI (eOdd i'))] h3 by
          refine w_icmp_ne (tgt := 173) d_MS_mergeEdges_166 rfl (fun c166 => ?_) (fun c166 => ?_)
          · have c166 : ¬ j' % 2 = 1 := fun z => c166 (by rw [z])
            refine w_iconst (v := nI 0) d_MS_mergeEdges_173 (by decide) ?_
            rw [bI_odd0 c166] at J174; exact J174
          · have c166 : j' % 2 = 1 := (nI_eq (by omega) (by omega)).mp c166
            refine w_iconst (v := nI 1) d_MS_mergeEdges_169 (by decide) ?_
            refine w_goto (tgt := 174) d_MS_mergeEdges_170 rfl ?_
            rw [bI_odd1 c166] at J174; exact J174
        refine w_iload_n d_MS_mergeEdges_174 rfl ?_
        refine w_callS (as := [.int (bI (eOdd i')), .int (bI (eOdd j')), .int (nI how)]) (st := []) d_MS_mergeEdges_175 yM_MS_isKept l_MS_53 sM_MS_isKept rfl rfl (m_MS_isKept hh) (by decide) (by decide) (by decide) (by decide) (Nat.le_of_ble_eq_true rfl) ?_
        rintro _ h9_1 ⟨rfl, e9_1⟩
        rw [e9_1]
        refine w_eq (st' := [.int (bI (eDec how (eOdd i') (eOdd j')))]) rfl ?_
        refine w_istore d_MS_mergeEdges_178 (by decide) ?_
        refine w_iload d_MS_mergeEdges_180 rfl ?_
        refine w_iload d_MS_mergeEdges_182 rfl ?_
        refine w_icmp_eq (tgt := 197) d_MS_mergeEdges_184 rfl (fun c184 => ?_) (fun c184 => ?_)
        · have c184 : eDec how (eOdd i') (eOdd j') = ins := (bI_eq _ _).mp c184
          rw [if_pos c184, c184] at hst
          refine w_iinc (v := nI (s + 1)) d_MS_mergeEdges_197 rfl (nI_1 _) (by decide) ?_
          refine w_goto (tgt := 23) d_MS_mergeEdges_200 rfl ?_
          refine w_le (pl' := [some (.ref p), some (.ref q), some (.ref r), some (.int (nI how)), some (.int (nI i')), some (.int (nI j')), some (.int (bI ins)), some (.int (nI (L.length + R.length))), some (.int (nI (s + 1))), none, none, none, none]) ⟨rfl, rfl, rfl, rfl, rfl, rfl, rfl, rfl, rfl, trivial⟩ ?_
          exact ih i' j' (s + 1) ins acc h3 (by omega) (by omega) k3 k4 hst
        · have c184 : ¬ eDec how (eOdd i') (eOdd j') = ins := fun z => c184 (by rw [z])
          rw [if_neg c184] at hst
          refine w_aload_n d_MS_mergeEdges_187 rfl rfl ?_
          refine w_iload d_MS_mergeEdges_188 rfl ?_
          refine w_callV (as := [.int (nI x)]) (st := []) d_MS_mergeEdges_190 yM_MS_toggleEdge l_MS_37 vM_MS_toggleEdge tp rfl rfl rfl rfl (m_MS_toggle k3 (fun z hz => by have := hlt z hz; omega) (by omega) (by omega)) (by decide) (by decide) (by decide) (by decide) (Nat.le_of_ble_eq_true rfl) ?_
          rintro _ h4 ⟨rfl, hm4, ho4⟩
          refine w_eq (st' := []) rfl ?_
          rw [eTog_new hlt] at hm4
          refine w_iload d_MS_mergeEdges_193 rfl ?_
          refine w_istore d_MS_mergeEdges_195 (by decide) ?_
          refine w_iinc (v := nI (s + 1)) d_MS_mergeEdges_197 rfl (nI_1 _) (by decide) ?_
          refine w_goto (tgt := 23) d_MS_mergeEdges_200 rfl ?_
          refine w_le (pl' := [some (.ref p), some (.ref q), some (.ref r), some (.int (nI how)), some (.int (nI i')), some (.int (nI j')), some (.int (bI (eDec how (eOdd i') (eOdd j')))), some (.int (nI (L.length + R.length))), some (.int (nI (s + 1))), none, none, none, none]) ⟨rfl, rfl, rfl, rfl, rfl, rfl, rfl, rfl, rfl, trivial⟩ ?_
          exact ih i' j' (s + 1) (eDec how (eOdd i') (eOdd j')) (acc ++ [x]) h4 (by omega) (by omega) hm4 (k4.tr ho4) hst
  refine w_iconst (v := nI 0) d_MS_mergeEdges_0 (by decide) ?_
  refine w_istore d_MS_mergeEdges_1 (by decide) ?_
  refine w_iconst (v := nI 0) d_MS_mergeEdges_3 (by decide) ?_
  refine w_istore d_MS_mergeEdges_4 (by decide) ?_
  refine w_iconst (v := nI 0) d_MS_mergeEdges_6 (by decide) ?_
  refine w_istore d_MS_mergeEdges_7 (by decide) ?_
  refine w_aload_n d_MS_mergeEdges_9 rfl rfl ?_
  refine w_get d_MS_mergeEdges_10 f_MS_21 up rfl ?_
  refine w_aload_n d_MS_mergeEdges_13 rfl rfl ?_
  refine w_get d_MS_mergeEdges_14 f_MS_21 vp rfl ?_
  refine w_iadd d_MS_mergeEdges_17 ?_
  refine w_topi (y := nI (L.length + R.length)) (nI_add _ _) ?_
  refine w_istore d_MS_mergeEdges_18 (by decide) ?_
  refine w_iconst (v := nI 0) d_MS_mergeEdges_20 (by decide) ?_
  refine w_istore d_MS_mergeEdges_21 (by decide) ?_
  exact LP (L.length + R.length + 1) 0 0 0 false [] h (by omega) (by omega) hhm wOff.rf (eInv_0 how L R)
set_option maxHeartbeats 4000000 in
set_option maxRecDepth 100000 in
theorem m_MS_mergeKeys {h : wH} {p q r how : Nat} {E0 EL EM L R : List Nat} (hm : hMS h p E0 []) (hq : hMS h q EL L) (hr : hMS h r EM R) (hdq : p + 3 ≤ q ∨ q + 3 ≤ p) (hdr : p + 3 ≤ r ∨ r + 3 ≤ p) (hL : eAsc L) (hR : eAsc R) (hLb : ∀ y ∈ L, y < 9223372036854775807) (hRb : ∀ y ∈ R, y < 9223372036854775807) (hlen : L.length + R.length ≤ 16) (hh : how ≤ 3) : PM X M_MS_mergeKeys 1 0 0 [.ref p, .ref q, .ref r, .int (nI how)] h (fun z h' => z = none ∧ hMS h' p E0 (sCmb how L R) ∧ wOff h h' p 3) := by
  have hhm := hm; obtain ⟨hf, hk, hp, ha, hb, hl1, hl2, hhf, hhk⟩ := hm
  have uhm := hq; obtain ⟨uf, uk, up, ua, ub, ul1, ul2, uhf, uhk⟩ := hq
  have vhm := hr; obtain ⟨vf, vk, vp, va, vb, vl1, vl2, vhf, vhk⟩ := hr
  refine PM.at (pl := [some (.ref p), some (.ref q), some (.ref r), some (.int (nI how)), none, none, none, none, none, none, none, none, none, none]) rfl rfl (by simp [wle, wen]) ?_
  generalize hEN : wEm X 0 0 _ = EN
  have LP : ∀ (n : Nat) (i j s : Nat) (acc : List Nat) (h3 : wH), (L.length + R.length - (i + j) < n) → (s ≤ i + j) → (hMS h3 p E0 acc) → (wOff h h3 p 3) → (sInv how L R i j acc) → WP X M_MS_mergeKeys (wR 1 0 0) 0 EN 0 0 20 [some (.ref p), some (.ref q), some (.ref r), some (.int (nI how)), some (.int (nI i)), some (.int (nI j)), some (.int (nI (L.length + R.length))), some (.int (nI s)), none, none, none, none, none, none] [] h3 := by
    intro n
    induction n with
    | zero => intro i j s acc h3 k1 k2 k3 k4 k5; omega
    | succ n ih =>
      intro i j s acc h3 k1 k2 k3 k4 k5
      obtain ⟨gf, gk, gp, ga, gb, gl1, gl2, ghf, ghk⟩ := uhm.off k4 (by omega)
      obtain ⟨wf, wk, wp, wa, wb, wl1, wl2, whf, whk⟩ := vhm.off k4 (by omega)
      have tm := k3; obtain ⟨tf, tk, tp, ta, tb, tl1, tl2, thf, thk⟩ := tm
      have q1 := k5.1
      have q2 := k5.2.1
      have q6 := k5.2.2.2.1
      refine w_iload d_MS_mergeKeys_20 rfl ?_
      refine w_iload d_MS_mergeKeys_22 rfl ?_
      refine w_icmp_ge (tgt := 177) d_MS_mergeKeys_24 rfl (fun c24 => ?_) (fun c24 => ?_)
      · have c24 := (nI_leI (a := L.length + R.length) (b := s) (by omega) (by omega)).mp c24
        rw [← hEN]
        refine w_vret d_MS_mergeKeys_177 rfl ?_
        have hi9 : i = L.length := by omega
        have hj9 : j = R.length := by omega
        subst hi9; subst hj9
        refine ⟨rfl, ?_, k4⟩
        rw [← sInv_end k5]
        exact k3
      · have c24 : s < L.length + R.length := Nat.not_le.mp (fun z => c24 ((nI_leI (a := L.length + R.length) (b := s) (by omega) (by omega)).mpr z))
        refine w_iload d_MS_mergeKeys_27 rfl ?_
        refine w_aload_n d_MS_mergeKeys_29 rfl rfl ?_
        refine w_get d_MS_mergeKeys_30 f_MS_25 gp rfl ?_
        suffices J45 : (i < L.length ∨ j < R.length) → WP X M_MS_mergeKeys (wR 1 0 0) 0 EN 0 0 45 [some (.ref p), some (.ref q), some (.ref r), some (.int (nI how)), some (.int (nI i)), some (.int (nI j)), some (.int (nI (L.length + R.length))), some (.int (nI s)), none, none, none, none, none, none] [] h3 by
          refine w_icmp_lt (tgt := 45) d_MS_mergeKeys_33 rfl (fun c33 => ?_) (fun c33 => ?_)
          · have c33 := (nI_ltI (a := i) (b := L.length) (by omega) (by omega)).mp c33
            exact J45 (Or.inl c33)
          · have c33 : ¬ i < L.length := fun z => c33 ((nI_ltI (a := i) (b := L.length) (by omega) (by omega)).mpr z)
            refine w_iload d_MS_mergeKeys_36 rfl ?_
            refine w_aload_n d_MS_mergeKeys_38 rfl rfl ?_
            refine w_get d_MS_mergeKeys_39 f_MS_25 wp rfl ?_
            refine w_icmp_ge (tgt := 177) d_MS_mergeKeys_42 rfl (fun c42 => ?_) (fun c42 => ?_)
            · have c42 := (nI_leI (a := R.length) (b := j) (by omega) (by omega)).mp c42
              rw [← hEN]
              refine w_vret d_MS_mergeKeys_177 rfl ?_
              have hi9 : i = L.length := by omega
              have hj9 : j = R.length := by omega
              subst hi9; subst hj9
              refine ⟨rfl, ?_, k4⟩
              rw [← sInv_end k5]
              exact k3
            · have c42 : j < R.length := Nat.not_le.mp (fun z => c42 ((nI_leI (a := R.length) (b := j) (by omega) (by omega)).mpr z))
              exact J45 (Or.inr c42)
        intro hij
        refine w_iload d_MS_mergeKeys_45 rfl ?_
        refine w_aload_n d_MS_mergeKeys_47 rfl rfl ?_
        refine w_get d_MS_mergeKeys_48 f_MS_25 gp rfl ?_
        suffices J67 : ∀ a : Nat, ((i < L.length ∧ L[i]? = some a) ∨ (L.length ≤ i ∧ a = 9223372036854775807)) → WP X M_MS_mergeKeys (wR 1 0 0) 0 EN 0 0 67 [some (.ref p), some (.ref q), some (.ref r), some (.int (nI how)), some (.int (nI i)), some (.int (nI j)), some (.int (nI (L.length + R.length))), some (.int (nI s)), none, none, none, none, none, none] [.long (lN a)] h3 by
          refine w_icmp_ge (tgt := 64) d_MS_mergeKeys_51 rfl (fun c51 => ?_) (fun c51 => ?_)
          · have c51 := (nI_leI (a := L.length) (b := i) (by omega) (by omega)).mp c51
            refine w_ldc2 (v := lN 9223372036854775807) d_MS_mergeKeys_64 k_MS_57 ?_
            exact J67 9223372036854775807 (Or.inr ⟨c51, rfl⟩)
          · have c51 : i < L.length := Nat.not_le.mp (fun z => c51 ((nI_leI (a := L.length) (b := i) (by omega) (by omega)).mpr z))
            obtain ⟨y, hy⟩ : ∃ y, L[i]? = some y := ⟨_, List.getElem?_eq_getElem c51⟩
            refine w_aload_n d_MS_mergeKeys_54 rfl rfl ?_
            refine w_get d_MS_mergeKeys_55 f_MS_15 gp rfl ?_
            refine w_iload d_MS_mergeKeys_58 rfl ?_
            refine w_lald d_MS_mergeKeys_60 gb (vp_in_nI (by omega) (by omega)) ?_
            refine w_topl (y := lN y) (by rw [nI_clamp (by omega)]; exact ghk _ _ hy) ?_
            refine w_goto (tgt := 67) d_MS_mergeKeys_61 rfl ?_
            exact J67 y (Or.inl ⟨c51, hy⟩)
        intro a haa
        have ha31 : a ≤ 9223372036854775807 := by
          rcases haa with ⟨-, z⟩ | ⟨-, z⟩
          · exact Nat.le_of_lt (hLb a (List.mem_of_getElem? z))
          · omega
        refine w_lstore d_MS_mergeKeys_67 (by decide) ?_
        refine w_iload d_MS_mergeKeys_69 rfl ?_
        refine w_aload_n d_MS_mergeKeys_71 rfl rfl ?_
        refine w_get d_MS_mergeKeys_72 f_MS_25 wp rfl ?_
        suffices J91 : ∀ b : Nat, ((j < R.length ∧ R[j]? = some b) ∨ (R.length ≤ j ∧ b = 9223372036854775807)) → WP X M_MS_mergeKeys (wR 1 0 0) 0 EN 0 0 91 [some (.ref p), some (.ref q), some (.ref r), some (.int (nI how)), some (.int (nI i)), some (.int (nI j)), some (.int (nI (L.length + R.length))), some (.int (nI s)), some (.long (lN a)), none, none, none, none, none] [.long (lN b)] h3 by
          refine w_icmp_ge (tgt := 88) d_MS_mergeKeys_75 rfl (fun c75 => ?_) (fun c75 => ?_)
          · have c75 := (nI_leI (a := R.length) (b := j) (by omega) (by omega)).mp c75
            refine w_ldc2 (v := lN 9223372036854775807) d_MS_mergeKeys_88 k_MS_57 ?_
            exact J91 9223372036854775807 (Or.inr ⟨c75, rfl⟩)
          · have c75 : j < R.length := Nat.not_le.mp (fun z => c75 ((nI_leI (a := R.length) (b := j) (by omega) (by omega)).mpr z))
            obtain ⟨y, hy⟩ : ∃ y, R[j]? = some y := ⟨_, List.getElem?_eq_getElem c75⟩
            refine w_aload_n d_MS_mergeKeys_78 rfl rfl ?_
            refine w_get d_MS_mergeKeys_79 f_MS_15 wp rfl ?_
            refine w_iload d_MS_mergeKeys_82 rfl ?_
            refine w_lald d_MS_mergeKeys_84 wb (vp_in_nI (by omega) (by omega)) ?_
            refine w_topl (y := lN y) (by rw [nI_clamp (by omega)]; exact whk _ _ hy) ?_
            refine w_goto (tgt := 91) d_MS_mergeKeys_85 rfl ?_
            exact J91 y (Or.inl ⟨c75, hy⟩)
        intro b hbb
        have hb31 : b ≤ 9223372036854775807 := by
          rcases hbb with ⟨-, z⟩ | ⟨-, z⟩
          · exact Nat.le_of_lt (hRb b (List.mem_of_getElem? z))
          · omega
        refine w_lstore d_MS_mergeKeys_91 (by decide) ?_
        refine w_lload d_MS_mergeKeys_93 rfl ?_
        refine w_lload d_MS_mergeKeys_95 rfl ?_
        refine w_lcmp d_MS_mergeKeys_97 ?_
        suffices J108 : ∀ x : Nat, ((x = a ∧ a < b) ∨ (x = b ∧ b ≤ a)) → WP X M_MS_mergeKeys (wR 1 0 0) 0 EN 0 0 108 [some (.ref p), some (.ref q), some (.ref r), some (.int (nI how)), some (.int (nI i)), some (.int (nI j)), some (.int (nI (L.length + R.length))), some (.int (nI s)), some (.long (lN a)), none, some (.long (lN b)), none, none, none] [.long (lN x)] h3 by
          refine w_if_ge (tgt := 106) d_MS_mergeKeys_98 rfl (fun c98 => ?_) (fun c98 => ?_)
          · have c98 : b ≤ a := (pk_lLE (by omega) (by omega)).mp ((lg_cmp_ge _ _).mp c98)
            refine w_lload d_MS_mergeKeys_106 rfl ?_
            exact J108 b (Or.inr ⟨rfl, c98⟩)
          · have c98 : a < b := Nat.not_le.mp (fun z => c98 ((lg_cmp_ge _ _).mpr ((pk_lLE (by omega) (by omega)).mpr z)))
            refine w_lload d_MS_mergeKeys_101 rfl ?_
            refine w_goto (tgt := 108) d_MS_mergeKeys_103 rfl ?_
            exact J108 a (Or.inl ⟨rfl, c98⟩)
        intro x hxx
        have hxM : x < 9223372036854775807 := mk1 haa hbb hxx hij hLb hRb
        refine w_lstore d_MS_mergeKeys_108 (by decide) ?_
        refine w_lload d_MS_mergeKeys_110 rfl ?_
        refine w_lload d_MS_mergeKeys_112 rfl ?_
        refine w_lcmp d_MS_mergeKeys_114 ?_
        suffices J123 : WP X M_MS_mergeKeys (wR 1 0 0) 0 EN 0 0 123 [some (.ref p), some (.ref q), some (.ref r), some (.int (nI how)), some (.int (nI i)), some (.int (nI j)), some (.int (nI (L.length + R.length))), some (.int (nI s)), some (.long (lN a)), none, some (.long (lN b)), none, some (.long (lN x)), none] [.int (bI (decide (a = x)))] h3 by
          refine w_if_ne (tgt := 122) d_MS_mergeKeys_115 rfl (fun c115 => ?_) (fun c115 => ?_)
          · have c115 : ¬ a = x := fun z => c115 (by rw [z]; exact lg_cmp_self _)
            refine w_iconst (v := nI 0) d_MS_mergeKeys_122 (by decide) ?_
            rw [decide_eq_false c115] at J123; exact J123
          · have c115 : a = x := (pk_lEQ (by omega) (by omega)).mp (lg_cmp_0 c115)
            refine w_iconst (v := nI 1) d_MS_mergeKeys_118 (by decide) ?_
            refine w_goto (tgt := 123) d_MS_mergeKeys_119 rfl ?_
            rw [decide_eq_true c115] at J123; exact J123
        refine w_lload d_MS_mergeKeys_123 rfl ?_
        refine w_lload d_MS_mergeKeys_125 rfl ?_
        refine w_lcmp d_MS_mergeKeys_127 ?_
        suffices J136 : WP X M_MS_mergeKeys (wR 1 0 0) 0 EN 0 0 136 [some (.ref p), some (.ref q), some (.ref r), some (.int (nI how)), some (.int (nI i)), some (.int (nI j)), some (.int (nI (L.length + R.length))), some (.int (nI s)), some (.long (lN a)), none, some (.long (lN b)), none, some (.long (lN x)), none] [.int (bI (decide (b = x))), .int (bI (decide (a = x)))] h3 by
          refine w_if_ne (tgt := 135) d_MS_mergeKeys_128 rfl (fun c128 => ?_) (fun c128 => ?_)
          · have c128 : ¬ b = x := fun z => c128 (by rw [z]; exact lg_cmp_self _)
            refine w_iconst (v := nI 0) d_MS_mergeKeys_135 (by decide) ?_
            rw [decide_eq_false c128] at J136; exact J136
          · have c128 : b = x := (pk_lEQ (by omega) (by omega)).mp (lg_cmp_0 c128)
            refine w_iconst (v := nI 1) d_MS_mergeKeys_131 (by decide) ?_
            refine w_goto (tgt := 136) d_MS_mergeKeys_132 rfl ?_
            rw [decide_eq_true c128] at J136; exact J136
        refine w_iload_n d_MS_mergeKeys_136 rfl ?_
        refine w_callS (as := [.int (bI (decide (a = x))), .int (bI (decide (b = x))), .int (nI how)]) (st := []) d_MS_mergeKeys_137 yM_MS_isKept l_MS_53 sM_MS_isKept rfl rfl (m_MS_isKept hh) (by decide) (by decide) (by decide) (by decide) (Nat.le_of_ble_eq_true rfl) ?_
        rintro _ h9_1 ⟨rfl, e9_1⟩
        rw [e9_1]
        refine w_eq (st' := [.int (bI (eDec how (decide (a = x)) (decide (b = x))))]) rfl ?_
        have hi0 := mk2 haa (by omega) hxM
        have hj0 := mk2 hbb (by omega) hxM
        have T149 : ∀ (acc' : List Nat) (h5 : wH), hMS h5 p E0 acc' → wOff h h5 p 3 → acc' = (if eDec how (decide (a = x)) (decide (b = x)) = true then acc ++ [x] else acc) → WP X M_MS_mergeKeys (wR 1 0 0) 0 EN 0 0 149 [some (.ref p), some (.ref q), some (.ref r), some (.int (nI how)), some (.int (nI i)), some (.int (nI j)), some (.int (nI (L.length + R.length))), some (.int (nI s)), some (.long (lN a)), none, some (.long (lN b)), none, some (.long (lN x)), none] [] h5 := by
          intro acc' h5 hm5 ho5 hacc
          refine w_lload d_MS_mergeKeys_149 rfl ?_
          refine w_lload d_MS_mergeKeys_151 rfl ?_
          refine w_lcmp d_MS_mergeKeys_153 ?_
          refine w_if_ne (tgt := 160) d_MS_mergeKeys_154 rfl (fun c154 => ?_) (fun c154 => ?_)
          · have c154 : ¬ a = x := fun z => c154 (by rw [z]; exact lg_cmp_self _)
            refine w_lload d_MS_mergeKeys_160 rfl ?_
            refine w_lload d_MS_mergeKeys_162 rfl ?_
            refine w_lcmp d_MS_mergeKeys_164 ?_
            refine w_if_ne (tgt := 171) d_MS_mergeKeys_165 rfl (fun c165 => ?_) (fun c165 => ?_)
            · have c165 : ¬ b = x := fun z => c165 (by rw [z]; exact lg_cmp_self _)
              refine w_iinc (v := nI (s + 1)) d_MS_mergeKeys_171 rfl (nI_1 _) (by decide) ?_
              refine w_goto (tgt := 20) d_MS_mergeKeys_174 rfl ?_
              refine w_le (pl' := [some (.ref p), some (.ref q), some (.ref r), some (.int (nI how)), some (.int (nI i)), some (.int (nI j)), some (.int (nI (L.length + R.length))), some (.int (nI (s + 1))), none, none, none, none, none, none]) ⟨rfl, rfl, rfl, rfl, rfl, rfl, rfl, rfl, trivial⟩ ?_
              have hne : i ≠ i ∨ j ≠ j := by omega
              have hst := sInv_step hL hR k5 (i' := i) (j' := j) (x := x) (Or.inl ⟨rfl, hi0.1 c154⟩) (Or.inl ⟨rfl, hj0.1 c165⟩) hne
              rw [decide_eq_false c154, decide_eq_false c165] at hacc
              simp at hst hacc
              exact ih (i) (j) (s + 1) acc' h5 (by omega) (by omega) hm5 ho5 (by rw [hacc]; first | exact hst | (simp; exact hst))
            · have c165 : b = x := (pk_lEQ (by omega) (by omega)).mp (lg_cmp_0 c165)
              refine w_iinc (v := nI (j + 1)) d_MS_mergeKeys_168 rfl (nI_1 _) (by decide) ?_
              refine w_iinc (v := nI (s + 1)) d_MS_mergeKeys_171 rfl (nI_1 _) (by decide) ?_
              refine w_goto (tgt := 20) d_MS_mergeKeys_174 rfl ?_
              refine w_le (pl' := [some (.ref p), some (.ref q), some (.ref r), some (.int (nI how)), some (.int (nI i)), some (.int (nI (j + 1))), some (.int (nI (L.length + R.length))), some (.int (nI (s + 1))), none, none, none, none, none, none]) ⟨rfl, rfl, rfl, rfl, rfl, rfl, rfl, rfl, trivial⟩ ?_
              have hne : i ≠ i ∨ j + 1 ≠ j := by omega
              have hst := sInv_step hL hR k5 (i' := i) (j' := j + 1) (x := x) (Or.inl ⟨rfl, hi0.1 c154⟩) (Or.inr ⟨rfl, hj0.2 c165⟩) hne
              rw [decide_eq_false c154, decide_eq_true c165] at hacc
              simp at hst hacc
              exact ih (i) (j + 1) (s + 1) acc' h5 (by omega) (by omega) hm5 ho5 (by rw [hacc]; first | exact hst | (simp; exact hst))
          · have c154 : a = x := (pk_lEQ (by omega) (by omega)).mp (lg_cmp_0 c154)
            refine w_iinc (v := nI (i + 1)) d_MS_mergeKeys_157 rfl (nI_1 _) (by decide) ?_
            refine w_lload d_MS_mergeKeys_160 rfl ?_
            refine w_lload d_MS_mergeKeys_162 rfl ?_
            refine w_lcmp d_MS_mergeKeys_164 ?_
            refine w_if_ne (tgt := 171) d_MS_mergeKeys_165 rfl (fun c165 => ?_) (fun c165 => ?_)
            · have c165 : ¬ b = x := fun z => c165 (by rw [z]; exact lg_cmp_self _)
              refine w_iinc (v := nI (s + 1)) d_MS_mergeKeys_171 rfl (nI_1 _) (by decide) ?_
              refine w_goto (tgt := 20) d_MS_mergeKeys_174 rfl ?_
              refine w_le (pl' := [some (.ref p), some (.ref q), some (.ref r), some (.int (nI how)), some (.int (nI (i + 1))), some (.int (nI j)), some (.int (nI (L.length + R.length))), some (.int (nI (s + 1))), none, none, none, none, none, none]) ⟨rfl, rfl, rfl, rfl, rfl, rfl, rfl, rfl, trivial⟩ ?_
              have hne : i + 1 ≠ i ∨ j ≠ j := by omega
              have hst := sInv_step hL hR k5 (i' := i + 1) (j' := j) (x := x) (Or.inr ⟨rfl, hi0.2 c154⟩) (Or.inl ⟨rfl, hj0.1 c165⟩) hne
              rw [decide_eq_true c154, decide_eq_false c165] at hacc
              simp at hst hacc
              exact ih (i + 1) (j) (s + 1) acc' h5 (by omega) (by omega) hm5 ho5 (by rw [hacc]; first | exact hst | (simp; exact hst))
            · have c165 : b = x := (pk_lEQ (by omega) (by omega)).mp (lg_cmp_0 c165)
              refine w_iinc (v := nI (j + 1)) d_MS_mergeKeys_168 rfl (nI_1 _) (by decide) ?_
              refine w_iinc (v := nI (s + 1)) d_MS_mergeKeys_171 rfl (nI_1 _) (by decide) ?_
              refine w_goto (tgt := 20) d_MS_mergeKeys_174 rfl ?_
              refine w_le (pl' := [some (.ref p), some (.ref q), some (.ref r), some (.int (nI how)), some (.int (nI (i + 1))), some (.int (nI (j + 1))), some (.int (nI (L.length + R.length))), some (.int (nI (s + 1))), none, none, none, none, none, none]) ⟨rfl, rfl, rfl, rfl, rfl, rfl, rfl, rfl, trivial⟩ ?_
              have hne : i + 1 ≠ i ∨ j + 1 ≠ j := by omega
              have hst := sInv_step hL hR k5 (i' := i + 1) (j' := j + 1) (x := x) (Or.inr ⟨rfl, hi0.2 c154⟩) (Or.inr ⟨rfl, hj0.2 c165⟩) hne
              rw [decide_eq_true c154, decide_eq_true c165] at hacc
              simp at hst hacc
              exact ih (i + 1) (j + 1) (s + 1) acc' h5 (by omega) (by omega) hm5 ho5 (by rw [hacc]; first | exact hst | (simp; exact hst))
        refine w_if_eq (tgt := 149) d_MS_mergeKeys_140 rfl (fun c140 => ?_) (fun c140 => ?_)
        · have c140 : ¬ eDec how (decide (a = x)) (decide (b = x)) = true := fun z => by rw [z] at c140; exact absurd c140 (by decide)
          exact T149 acc h3 k3 k4 (by rw [if_neg c140])
        · have c140 : eDec how (decide (a = x)) (decide (b = x)) = true := by cases hz : eDec how (decide (a = x)) (decide (b = x)) with | true => rfl | false => rw [hz] at c140; exact absurd rfl c140
          refine w_aload_n d_MS_mergeKeys_143 rfl rfl ?_
          refine w_lload d_MS_mergeKeys_144 rfl ?_
          refine w_callV (as := [.long (lN x)]) (st := []) d_MS_mergeKeys_146 yM_MS_appendKey l_MS_41 vM_MS_appendKey tp rfl rfl rfl rfl (m_MS_appendKey k3 (by omega)) (by decide) (by decide) (by decide) (by decide) (Nat.le_of_ble_eq_true rfl) ?_
          rintro _ h4 ⟨rfl, hm4, ho4⟩
          refine w_eq (st' := []) rfl ?_
          exact T149 (acc ++ [x]) h4 hm4 (k4.tr ho4) (by rw [if_pos c140])
  refine w_iconst (v := nI 0) d_MS_mergeKeys_0 (by decide) ?_
  refine w_istore d_MS_mergeKeys_1 (by decide) ?_
  refine w_iconst (v := nI 0) d_MS_mergeKeys_3 (by decide) ?_
  refine w_istore d_MS_mergeKeys_4 (by decide) ?_
  refine w_aload_n d_MS_mergeKeys_6 rfl rfl ?_
  refine w_get d_MS_mergeKeys_7 f_MS_25 up rfl ?_
  refine w_aload_n d_MS_mergeKeys_10 rfl rfl ?_
  refine w_get d_MS_mergeKeys_11 f_MS_25 vp rfl ?_
  refine w_iadd d_MS_mergeKeys_14 ?_
  refine w_topi (y := nI (L.length + R.length)) (nI_add _ _) ?_
  refine w_istore d_MS_mergeKeys_15 (by decide) ?_
  refine w_iconst (v := nI 0) d_MS_mergeKeys_17 (by decide) ?_
  refine w_istore d_MS_mergeKeys_18 (by decide) ?_
  exact LP (L.length + R.length + 1) 0 0 0 [] h (by omega) (by omega) hhm wOff.rf (sInv_0 how L R)
set_option maxHeartbeats 4000000 in
set_option maxRecDepth 100000 in
theorem m_MS_becomeMerge {h : wH} {p q r how : Nat} {E0 S0 L SL R SR : List Nat} (hm : hMS h p E0 S0) (hq : hMS h q L SL) (hr : hMS h r R SR) (hdq : p + 3 ≤ q ∨ q + 3 ≤ p) (hdr : p + 3 ≤ r ∨ r + 3 ≤ p) (hL : eOk L) (hR : eOk R) (hlen : L.length + R.length ≤ 400) (hSL : eAsc SL) (hSR : eAsc SR) (hLb : ∀ y ∈ SL, y < 9223372036854775807) (hRb : ∀ y ∈ SR, y < 9223372036854775807) (hslen : SL.length + SR.length ≤ 16) (hh : how ≤ 3) : PM X M_MS_becomeMerge 2 0 0 [.ref p, .ref q, .ref r, .int (nI how)] h (fun z h' => z = none ∧ hMS h' p (eCmb how L R) (sCmb how SL SR) ∧ wOff h h' p 3) := by
  have hhm := hm; obtain ⟨hf, hk, hp, ha, hb, hl1, hl2, hhf, hhk⟩ := hm
  refine PM.at (pl := [some (.ref p), some (.ref q), some (.ref r), some (.int (nI how))]) rfl rfl (by simp [wle, wen]) ?_
  generalize hEN : wEm X 0 0 _ = EN
  refine w_aload_n d_MS_becomeMerge_0 rfl rfl ?_
  refine w_callV (as := []) (st := []) d_MS_becomeMerge_1 yM_MS_clear l_MS_34 vM_MS_clear hp rfl rfl rfl rfl (m_MS_clear hhm) (by decide) (by decide) (by decide) (by decide) (Nat.le_of_ble_eq_true rfl) ?_
  rintro _ h1 ⟨rfl, hm1, ho1⟩
  refine w_eq (st' := []) rfl ?_
  have xm := hm1; obtain ⟨xf, xk, xp, xa, xb, xl1, xl2, xhf, xhk⟩ := hm1
  refine w_aload_n d_MS_becomeMerge_4 rfl rfl ?_
  refine w_aload_n d_MS_becomeMerge_5 rfl rfl ?_
  refine w_aload_n d_MS_becomeMerge_6 rfl rfl ?_
  refine w_iload_n d_MS_becomeMerge_7 rfl ?_
  refine w_callV (as := [.ref q, .ref r, .int (nI how)]) (st := []) d_MS_becomeMerge_8 yM_MS_mergeEdges l_MS_46 vM_MS_mergeEdges xp rfl rfl rfl rfl (m_MS_mergeEdges xm (hq.off ho1 (by omega)) (hr.off ho1 (by omega)) hdq hdr hL hR hlen hh) (by decide) (by decide) (by decide) (by decide) (Nat.le_of_ble_eq_true rfl) ?_
  rintro _ h2 ⟨rfl, hm2, ho2⟩
  refine w_eq (st' := []) rfl ?_
  have ym := hm2; obtain ⟨yf, yk, yp, ya, yb, yl1, yl2, yhf, yhk⟩ := hm2
  refine w_aload_n d_MS_becomeMerge_11 rfl rfl ?_
  refine w_aload_n d_MS_becomeMerge_12 rfl rfl ?_
  refine w_aload_n d_MS_becomeMerge_13 rfl rfl ?_
  refine w_iload_n d_MS_becomeMerge_14 rfl ?_
  refine w_callV (as := [.ref q, .ref r, .int (nI how)]) (st := []) d_MS_becomeMerge_15 yM_MS_mergeKeys l_MS_50 vM_MS_mergeKeys yp rfl rfl rfl rfl (m_MS_mergeKeys ym (hq.off (ho1.tr ho2) (by omega)) (hr.off (ho1.tr ho2) (by omega)) hdq hdr hSL hSR hLb hRb hslen hh) (by decide) (by decide) (by decide) (by decide) (Nat.le_of_ble_eq_true rfl) ?_
  rintro _ h3 ⟨rfl, hm3, ho3⟩
  refine w_eq (st' := []) rfl ?_
  rw [← hEN]
  refine w_vret d_MS_becomeMerge_18 rfl ?_
  exact ⟨rfl, hm3, (ho1.tr ho2).tr ho3⟩
end MS3
end
section
/-! MemberSet, four: copies and keys: written by wip/gen/ms4.py -/
theorem kOf_0 {a b t : Nat} (ha : a < 1114112) (hb : b < 1114112) (ht : t ≤ 1114112) : kOf a b t / 2 ^ 42 % 2097152 = a + 1 := by unfold kOf; omega
theorem kOf_1 {a b t : Nat} (ha : a < 1114112) (hb : b < 1114112) (ht : t ≤ 1114112) : kOf a b t / 2 ^ 21 % 2097152 = b + 1 := by unfold kOf; omega
theorem kOf_2 {a b t : Nat} (ha : a < 1114112) (hb : b < 1114112) (ht : t ≤ 1114112) : kOf a b t / 2 ^ 0 % 2097152 = t := by unfold kOf; omega
section MS4
variable {X : wX}
set_option maxHeartbeats 4000000 in
set_option maxRecDepth 100000 in
theorem m_MS_become {h : wH} {p q : Nat} {E0 S0 E S : List Nat} (hm : hMS h p E0 S0) (hq : hMS h q E S) (hd : p + 3 ≤ q ∨ q + 3 ≤ p) : PM X M_MS_become 1 0 0 [.ref p, .ref q] h (fun r h' => r = none ∧ hMS h' p E S ∧ wOff h h' p 3) := by
  have hhm := hm; obtain ⟨hf, hk, hp, ha, hb, hl1, hl2, hhf, hhk⟩ := hm
  have ghm := hq; obtain ⟨gf, gk, gp, ga, gb, gl1, gl2, ghf, ghk⟩ := hq
  refine PM.at (pl := [some (.ref p), some (.ref q)]) rfl rfl (by simp [wle, wen]) ?_
  generalize hEN : wEm X 0 0 _ = EN
  refine w_aload_n d_MS_become_0 rfl rfl ?_
  refine w_get d_MS_become_1 f_MS_11 gp rfl ?_
  refine w_iconst (v := nI 0) d_MS_become_4 (by decide) ?_
  refine w_aload_n d_MS_become_5 rfl rfl ?_
  refine w_get d_MS_become_6 f_MS_11 hp rfl ?_
  refine w_iconst (v := nI 0) d_MS_become_9 (by decide) ?_
  refine w_aload_n d_MS_become_10 rfl rfl ?_
  refine w_get d_MS_become_11 f_MS_21 gp rfl ?_
  refine w_copyI d_MS_become_14 a_MS_28 aCopy1 aCopy2 aCopy3 ga ha (nI_pos (by omega)) (nI_pos (by omega)) (nI_pos (by omega)) (by rw [nI_clamp (by omega), nI_clamp (by omega)]; omega) (by rw [nI_clamp (by omega), nI_clamp (by omega)]; omega) (by decide) (by decide) (by decide) ?_
  refine w_nm (fun h1 e1 => ?_)
  have hp_1 := wS_ne e1 (by omega) hp
  have ha_1 := wS_eq e1 ha
  have hb_1 := wS_ne e1 (by omega) hb
  have gp_1 := wS_ne e1 (by omega) gp
  have ga_1 := wS_ne e1 (by omega) ga
  have gb_1 := wS_ne e1 (by omega) gb
  refine w_aload_n d_MS_become_17 rfl rfl ?_
  refine w_get d_MS_become_18 f_MS_15 gp_1 rfl ?_
  refine w_iconst (v := nI 0) d_MS_become_21 (by decide) ?_
  refine w_aload_n d_MS_become_22 rfl rfl ?_
  refine w_get d_MS_become_23 f_MS_15 hp_1 rfl ?_
  refine w_iconst (v := nI 0) d_MS_become_26 (by decide) ?_
  refine w_aload_n d_MS_become_27 rfl rfl ?_
  refine w_get d_MS_become_28 f_MS_25 gp_1 rfl ?_
  refine w_copyJ d_MS_become_31 a_MS_28 aCopy1 aCopy2 aCopy3 gb_1 hb_1 (nI_pos (by omega)) (nI_pos (by omega)) (nI_pos (by omega)) (by rw [nI_clamp (by omega), nI_clamp (by omega)]; omega) (by rw [nI_clamp (by omega), nI_clamp (by omega)]; omega) (by decide) (by decide) (by decide) ?_
  refine w_nm (fun h2 e2 => ?_)
  have hp_2 := wS_ne e2 (by omega) hp_1
  have ha_2 := wS_ne e2 (by omega) ha_1
  have hb_2 := wS_eq e2 hb_1
  have gp_2 := wS_ne e2 (by omega) gp_1
  have ga_2 := wS_ne e2 (by omega) ga_1
  have gb_2 := wS_ne e2 (by omega) gb_1
  refine w_aload_n d_MS_become_34 rfl rfl ?_
  refine w_aload_n d_MS_become_35 rfl rfl ?_
  refine w_get d_MS_become_36 f_MS_21 gp_2 rfl ?_
  refine w_put d_MS_become_39 f_MS_21 rfl hp_2 rfl rfl rfl ?_
  refine w_nm (fun h3 e3 => ?_)
  have hp_3 := wS_eq e3 hp_2
  have ha_3 := wS_ne e3 (by omega) ha_2
  have hb_3 := wS_ne e3 (by omega) hb_2
  have gp_3 := wS_ne e3 (by omega) gp_2
  have ga_3 := wS_ne e3 (by omega) ga_2
  have gb_3 := wS_ne e3 (by omega) gb_2
  refine w_aload_n d_MS_become_42 rfl rfl ?_
  refine w_aload_n d_MS_become_43 rfl rfl ?_
  refine w_get d_MS_become_44 f_MS_25 gp_3 rfl ?_
  refine w_put d_MS_become_47 f_MS_25 rfl hp_3 rfl rfl rfl ?_
  refine w_nm (fun h4 e4 => ?_)
  have hp_4 := wS_eq e4 hp_3
  have ha_4 := wS_ne e4 (by omega) ha_3
  have hb_4 := wS_ne e4 (by omega) hb_3
  have gp_4 := wS_ne e4 (by omega) gp_3
  have ga_4 := wS_ne e4 (by omega) ga_3
  have gb_4 := wS_ne e4 (by omega) gb_3
  rw [← hEN]
  refine w_vret d_MS_become_50 rfl ?_
  refine ⟨rfl, ⟨_, _, hp_4, ha_4, hb_4, gl1, gl2, fun i x hx => ?_, fun i x hx => ?_⟩, fun k hk => ?_⟩
  · rw [nI_clamp (by omega), nI_clamp (by omega), pk_cpy_in (Nat.zero_le _) (by have := (List.getElem?_eq_some_iff.mp hx).1; omega), Nat.zero_add, Nat.sub_zero]
    exact ghf i x hx
  · rw [nI_clamp (by omega), nI_clamp (by omega), pk_cpy_in (Nat.zero_le _) (by have := (List.getElem?_eq_some_iff.mp hx).1; omega), Nat.zero_add, Nat.sub_zero]
    exact ghk i x hx
  · rw [wS_off e4 (by omega), wS_off e3 (by omega), wS_off e2 (by omega), wS_off e1 (by omega)]
set_option maxHeartbeats 4000000 in
set_option maxRecDepth 100000 in
theorem m_MS_becomeEdges {h : wH} {p i0 : Nat} {E0 S0 T : List Nat} {tf : Nat → Int32} (hm : hMS h p E0 S0) (ht : (xo X)[i0]? = some (T.length, tf)) (htf : ∀ i x, T[i]? = some x → tf i = nI x) (hT : eOk T) (hlen : T.length < 400) : PM X M_MS_becomeEdges 1 0 0 [.ref p, .ref (1000 + i0)] h (fun r h' => r = none ∧ hMS h' p T [] ∧ wOff h h' p 3) := by
  have hhm := hm; obtain ⟨hf, hk, hp, ha, hb, hl1, hl2, hhf, hhk⟩ := hm
  refine PM.at (pl := [some (.ref p), some (.ref (1000 + i0)), none]) rfl rfl (by simp [wle, wen]) ?_
  generalize hEN : wEm X 0 0 _ = EN
  have L : ∀ (n : Nat) (i : Nat) (h3 : wH), (T.length - i < n) → (i ≤ T.length) → (hMS h3 p (T.take i) []) → (wOff h h3 p 3) → WP X M_MS_becomeEdges (wR 1 0 0) 0 EN 0 0 6 [some (.ref p), some (.ref (1000 + i0)), some (.int (nI i))] [] h3 := by
    intro n
    induction n with
    | zero => intro i h3 k1 k2 k3 k4; omega
    | succ n ih =>
      intro i h3 k1 k2 k3 k4
      have rm := k3; obtain ⟨rf, rk, rp, ra, rb, rl1, rl2, rhf, rhk⟩ := rm
      refine w_iload_n d_MS_becomeEdges_6 rfl ?_
      refine w_aload_n d_MS_becomeEdges_7 rfl rfl ?_
      refine w_tlen (v := nI T.length) d_MS_becomeEdges_8 ht rfl ?_
      refine w_icmp_ge (tgt := 25) d_MS_becomeEdges_9 rfl (fun c9 => ?_) (fun c9 => ?_)
      · have c9 := (nI_leI (a := T.length) (b := i) (by omega) (by omega)).mp c9
        rw [← hEN]
        refine w_vret d_MS_becomeEdges_25 rfl ?_
        rw [List.take_of_length_le c9] at k3
        exact ⟨rfl, k3, k4⟩
      · have c9 : i < T.length := Nat.not_le.mp (fun z => c9 ((nI_leI (a := T.length) (b := i) (by omega) (by omega)).mpr z))
        obtain ⟨y, hy⟩ : ∃ y, T[i]? = some y := ⟨_, List.getElem?_eq_getElem c9⟩
        have hy31 := hT.2 y (List.mem_of_getElem? hy)
        have hlt : ∀ a ∈ T.take i, a < y := fun a ha => by obtain ⟨k, z1, z2⟩ := eMem_take ha; exact eAsc_lt hT.1 z1 z2 hy
        refine w_aload_n d_MS_becomeEdges_12 rfl rfl ?_
        refine w_aload_n d_MS_becomeEdges_13 rfl rfl ?_
        refine w_iload_n d_MS_becomeEdges_14 rfl ?_
        refine w_ti d_MS_becomeEdges_15 ht (vp_in_nI (by omega) (by omega)) ?_
        refine w_topi (y := nI y) (by rw [nI_clamp (by omega)]; exact htf _ _ hy) ?_
        refine w_callV (as := [.int (nI y)]) (st := []) d_MS_becomeEdges_16 yM_MS_toggleEdge l_MS_37 vM_MS_toggleEdge rp rfl rfl rfl rfl (m_MS_toggle k3 (fun z hz => by have := hlt z hz; omega) (by omega) (by rw [List.length_take]; omega)) (by decide) (by decide) (by decide) (by decide) (Nat.le_of_ble_eq_true rfl) ?_
        rintro _ h4 ⟨rfl, hm4, ho4⟩
        refine w_eq (st' := []) rfl ?_
        refine w_iinc (v := nI (i + 1)) d_MS_becomeEdges_19 rfl (nI_1 _) (by decide) ?_
        refine w_goto (tgt := 6) d_MS_becomeEdges_22 rfl ?_
        rw [eTog_new hlt, ← eTake_succ hy] at hm4
        exact ih (i + 1) h4 (by omega) (by omega) hm4 (k4.tr ho4)
  refine w_aload_n d_MS_becomeEdges_0 rfl rfl ?_
  refine w_callV (as := []) (st := []) d_MS_becomeEdges_1 yM_MS_clear l_MS_34 vM_MS_clear hp rfl rfl rfl rfl (m_MS_clear hhm) (by decide) (by decide) (by decide) (by decide) (Nat.le_of_ble_eq_true rfl) ?_
  rintro _ h1 ⟨rfl, hm1, ho1⟩
  refine w_eq (st' := []) rfl ?_
  refine w_iconst (v := nI 0) d_MS_becomeEdges_4 (by decide) ?_
  refine w_istore_n d_MS_becomeEdges_5 (by decide) ?_
  exact L (T.length + 1) 0 h1 (by omega) (Nat.zero_le _) (by rw [List.take_zero]; exact hm1) ho1
set_option maxHeartbeats 4000000 in
set_option maxRecDepth 100000 in
theorem m_MS_keyOf {h : wH} {a b t : Nat} {x : Int32} (ha : a < 1114112) (hb : b < 1114112) (hx : x.toInt64 + lN 1 = lN t) (ht : t ≤ 1114112) : PM X M_MS_keyOf 0 0 0 [.int (nI a), .int (nI b), .int (x)] h (fun r h' => r = some (.long (lN (kOf a b t))) ∧ h' = h) := by
  refine PM.at (pl := [some (.int (nI a)), some (.int (nI b)), some (.int (x))]) rfl rfl (by simp [wle, wen]) ?_
  generalize hEN : wEm X 0 0 _ = EN
  refine w_iload_n d_MS_keyOf_0 rfl ?_
  refine w_i2l d_MS_keyOf_1 ?_
  refine w_topl (y := lN a) (nI_l (by omega)) ?_
  refine w_lconst (v := lN 1) d_MS_keyOf_2 (by decide) ?_
  refine w_ladd d_MS_keyOf_3 ?_
  refine w_topl (y := lN (a + 1)) (lN_add _ _) ?_
  refine w_bipush (v := nI 42) d_MS_keyOf_4 (by decide) ?_
  refine w_lshl d_MS_keyOf_6 ?_
  refine w_topl (y := lN ((a + 1) * 2 ^ 42)) (wb_shl _ (by decide)) ?_
  refine w_iload_n d_MS_keyOf_7 rfl ?_
  refine w_i2l d_MS_keyOf_8 ?_
  refine w_topl (y := lN b) (nI_l (by omega)) ?_
  refine w_lconst (v := lN 1) d_MS_keyOf_9 (by decide) ?_
  refine w_ladd d_MS_keyOf_10 ?_
  refine w_topl (y := lN (b + 1)) (lN_add _ _) ?_
  refine w_bipush (v := nI 21) d_MS_keyOf_11 (by decide) ?_
  refine w_lshl d_MS_keyOf_13 ?_
  refine w_topl (y := lN ((b + 1) * 2 ^ 21)) (wb_shl _ (by decide)) ?_
  refine w_lor d_MS_keyOf_14 ?_
  refine w_iload_n d_MS_keyOf_15 rfl ?_
  refine w_i2l d_MS_keyOf_16 ?_
  refine w_lconst (v := lN 1) d_MS_keyOf_17 (by decide) ?_
  refine w_ladd d_MS_keyOf_18 ?_
  refine w_topl (y := lN t) hx ?_
  refine w_lor d_MS_keyOf_19 ?_
  refine w_topl (y := lN (kOf a b t)) (kOr (by omega) (by omega) ht) ?_
  rw [← hEN]
  refine w_lret d_MS_keyOf_20 rfl ?_
  exact ⟨rfl, rfl⟩
set_option maxHeartbeats 4000000 in
set_option maxRecDepth 100000 in
theorem m_MS_codeOfKey0 {h : wH} {a b t : Nat} (ha : a < 1114112) (hb : b < 1114112) (ht : t ≤ 1114112) : PM X M_MS_codeOfKey 0 0 0 [.long (lN (kOf a b t)), .int (nI 0)] h (fun r h' => r = some (.int (nI a)) ∧ h' = h) := by
  have hlt := kOf_lt ha hb ht
  refine PM.at (pl := [some (.long (lN (kOf a b t))), none, some (.int (nI 0)), none]) rfl rfl (by simp [wle, wen]) ?_
  generalize hEN : wEm X 0 0 _ = EN
  refine w_iconst (v := nI 2) d_MS_codeOfKey_0 (by decide) ?_
  refine w_iload_n d_MS_codeOfKey_1 rfl ?_
  refine w_isub d_MS_codeOfKey_2 ?_
  refine w_topi (y := nI 2) (by decide) ?_
  refine w_bipush (v := nI 21) d_MS_codeOfKey_3 (by decide) ?_
  refine w_imul d_MS_codeOfKey_5 ?_
  refine w_topi (y := nI 42) (by decide) ?_
  refine w_istore_n d_MS_codeOfKey_6 (by decide) ?_
  refine w_lload_n d_MS_codeOfKey_7 rfl ?_
  refine w_iload_n d_MS_codeOfKey_8 rfl ?_
  refine w_lshr d_MS_codeOfKey_9 ?_
  refine w_topl (y := lN (kOf a b t / 2 ^ 42)) (kshr (d := 42) (by decide) (by omega)) ?_
  refine w_ldc2 (v := lN 2097151) d_MS_codeOfKey_10 k_MS_19 ?_
  refine w_land d_MS_codeOfKey_13 ?_
  refine w_topl (y := lN (kOf a b t / 2 ^ 42 % 2097152)) (kMask (by omega)) ?_
  refine w_l2i d_MS_codeOfKey_14 ?_
  refine w_topi (y := nI (a + 1)) (by rw [lN_i, kOf_0 ha hb ht]) ?_
  refine w_iconst (v := nI 1) d_MS_codeOfKey_15 (by decide) ?_
  refine w_isub d_MS_codeOfKey_16 ?_
  refine w_topi (y := nI a) (pk_sub (by omega)) ?_
  rw [← hEN]
  refine w_iret d_MS_codeOfKey_17 rfl ?_
  exact ⟨rfl, rfl⟩
set_option maxHeartbeats 4000000 in
set_option maxRecDepth 100000 in
theorem m_MS_codeOfKey1 {h : wH} {a b t : Nat} (ha : a < 1114112) (hb : b < 1114112) (ht : t ≤ 1114112) : PM X M_MS_codeOfKey 0 0 0 [.long (lN (kOf a b t)), .int (nI 1)] h (fun r h' => r = some (.int (nI b)) ∧ h' = h) := by
  have hlt := kOf_lt ha hb ht
  refine PM.at (pl := [some (.long (lN (kOf a b t))), none, some (.int (nI 1)), none]) rfl rfl (by simp [wle, wen]) ?_
  generalize hEN : wEm X 0 0 _ = EN
  refine w_iconst (v := nI 2) d_MS_codeOfKey_0 (by decide) ?_
  refine w_iload_n d_MS_codeOfKey_1 rfl ?_
  refine w_isub d_MS_codeOfKey_2 ?_
  refine w_topi (y := nI 1) (by decide) ?_
  refine w_bipush (v := nI 21) d_MS_codeOfKey_3 (by decide) ?_
  refine w_imul d_MS_codeOfKey_5 ?_
  refine w_topi (y := nI 21) (by decide) ?_
  refine w_istore_n d_MS_codeOfKey_6 (by decide) ?_
  refine w_lload_n d_MS_codeOfKey_7 rfl ?_
  refine w_iload_n d_MS_codeOfKey_8 rfl ?_
  refine w_lshr d_MS_codeOfKey_9 ?_
  refine w_topl (y := lN (kOf a b t / 2 ^ 21)) (kshr (d := 21) (by decide) (by omega)) ?_
  refine w_ldc2 (v := lN 2097151) d_MS_codeOfKey_10 k_MS_19 ?_
  refine w_land d_MS_codeOfKey_13 ?_
  refine w_topl (y := lN (kOf a b t / 2 ^ 21 % 2097152)) (kMask (by omega)) ?_
  refine w_l2i d_MS_codeOfKey_14 ?_
  refine w_topi (y := nI (b + 1)) (by rw [lN_i, kOf_1 ha hb ht]) ?_
  refine w_iconst (v := nI 1) d_MS_codeOfKey_15 (by decide) ?_
  refine w_isub d_MS_codeOfKey_16 ?_
  refine w_topi (y := nI b) (pk_sub (by omega)) ?_
  rw [← hEN]
  refine w_iret d_MS_codeOfKey_17 rfl ?_
  exact ⟨rfl, rfl⟩
set_option maxHeartbeats 4000000 in
set_option maxRecDepth 100000 in
theorem m_MS_codeOfKey2 {h : wH} {a b t : Nat} (ha : a < 1114112) (hb : b < 1114112) (ht : t ≤ 1114112) : PM X M_MS_codeOfKey 0 0 0 [.long (lN (kOf a b t)), .int (nI 2)] h (fun r h' => r = some (.int (nI t - nI 1)) ∧ h' = h) := by
  have hlt := kOf_lt ha hb ht
  refine PM.at (pl := [some (.long (lN (kOf a b t))), none, some (.int (nI 2)), none]) rfl rfl (by simp [wle, wen]) ?_
  generalize hEN : wEm X 0 0 _ = EN
  refine w_iconst (v := nI 2) d_MS_codeOfKey_0 (by decide) ?_
  refine w_iload_n d_MS_codeOfKey_1 rfl ?_
  refine w_isub d_MS_codeOfKey_2 ?_
  refine w_topi (y := nI 0) (by decide) ?_
  refine w_bipush (v := nI 21) d_MS_codeOfKey_3 (by decide) ?_
  refine w_imul d_MS_codeOfKey_5 ?_
  refine w_topi (y := nI 0) (by decide) ?_
  refine w_istore_n d_MS_codeOfKey_6 (by decide) ?_
  refine w_lload_n d_MS_codeOfKey_7 rfl ?_
  refine w_iload_n d_MS_codeOfKey_8 rfl ?_
  refine w_lshr d_MS_codeOfKey_9 ?_
  refine w_topl (y := lN (kOf a b t / 2 ^ 0)) (kshr (d := 0) (by decide) (by omega)) ?_
  refine w_ldc2 (v := lN 2097151) d_MS_codeOfKey_10 k_MS_19 ?_
  refine w_land d_MS_codeOfKey_13 ?_
  refine w_topl (y := lN (kOf a b t / 2 ^ 0 % 2097152)) (kMask (by omega)) ?_
  refine w_l2i d_MS_codeOfKey_14 ?_
  refine w_topi (y := nI (t)) (by rw [lN_i, kOf_2 ha hb ht]) ?_
  refine w_iconst (v := nI 1) d_MS_codeOfKey_15 (by decide) ?_
  refine w_isub d_MS_codeOfKey_16 ?_
  rw [← hEN]
  refine w_iret d_MS_codeOfKey_17 rfl ?_
  exact ⟨rfl, rfl⟩
end MS4
end
section
theorem w_pl {X : wX} {M : wM} {R : Room} {B : Nat} {E : wN} {nc u pc : Nat} {pl pl' : List (Option Value)} {st : List Value} {h : wH} (e : pl = pl') (k : WP X M R B E nc u pc pl' st h) : WP X M R B E nc u pc pl st h := by
  rw [e]
  exact k
end
section
/-! methods of CA NS OB PW TR PR CP ST SL: written by wip/gen/mknames.py -/
def M_CA_collectAlikes : wM := (⟨"CodePointSets$CaseRules", "collectAlikes", "(LCodePointSets$MemberSet;LCodePointSets$MemberSet;)V"⟩, prog_2_method_2_code, 4, none)
set_option maxRecDepth 100000 in
theorem yM_CA_collectAlikes : wCy M_CA_collectAlikes 2 := ⟨wIn 570 rfl (by decide +kernel), wIn 15 (by decide +kernel) (by decide +kernel), by decide +kernel, by decide +kernel, by decide +kernel, by decide +kernel⟩
theorem sM_CA_collectAlikes : Cond.static M_CA_collectAlikes.1 ∈ wWL := wIn 569 (by decide +kernel) (by decide +kernel)
def M_CA_isAlikeToMember : wM := (⟨"CodePointSets$CaseRules", "isAlikeToMember", "(LCodePointSets$MemberSet;I)Z"⟩, prog_2_method_3_code, 6, (some (.boolean)))
set_option maxRecDepth 100000 in
theorem yM_CA_isAlikeToMember : wCy M_CA_isAlikeToMember 2 := ⟨wIn 576 rfl (by decide +kernel), wIn 15 (by decide +kernel) (by decide +kernel), by decide +kernel, by decide +kernel, by decide +kernel, by decide +kernel⟩
theorem sM_CA_isAlikeToMember : Cond.static M_CA_isAlikeToMember.1 ∈ wWL := wIn 575 (by decide +kernel) (by decide +kernel)
def M_CA_isLarge : wM := (⟨"CodePointSets$CaseRules", "isLarge", "(I)Z"⟩, prog_2_method_4_code, 2, (some (.boolean)))
set_option maxRecDepth 100000 in
theorem yM_CA_isLarge : wCy M_CA_isLarge 1 := ⟨wIn 579 rfl (by decide +kernel), wIn 15 (by decide +kernel) (by decide +kernel), by decide +kernel, by decide +kernel, by decide +kernel, by decide +kernel⟩
theorem sM_CA_isLarge : Cond.static M_CA_isLarge.1 ∈ wWL := wIn 578 (by decide +kernel) (by decide +kernel)
def M_NS_numberOf : wM := (⟨"CodePointSets$NamedSets", "numberOf", "(LCodePointSets$CodeRow;)I"⟩, prog_5_method_2_code, 2, (some (.int)))
set_option maxRecDepth 100000 in
theorem yM_NS_numberOf : wCy M_NS_numberOf 1 := ⟨wIn 275 rfl (by decide +kernel), wIn 10 (by decide +kernel) (by decide +kernel), by decide +kernel, by decide +kernel, by decide +kernel, by decide +kernel⟩
theorem sM_NS_numberOf : Cond.static M_NS_numberOf.1 ∈ wWL := wIn 274 (by decide +kernel) (by decide +kernel)
def M_NS_nameOf : wM := (⟨"CodePointSets$NamedSets", "nameOf", "(I)Ljava/lang/String;"⟩, prog_5_method_4_code, 1, (some (.object "java/lang/String")))
set_option maxRecDepth 100000 in
theorem yM_NS_nameOf : wCy M_NS_nameOf 1 := ⟨wIn 278 rfl (by decide +kernel), wIn 10 (by decide +kernel) (by decide +kernel), by decide +kernel, by decide +kernel, by decide +kernel, by decide +kernel⟩
theorem sM_NS_nameOf : Cond.static M_NS_nameOf.1 ∈ wWL := wIn 277 (by decide +kernel) (by decide +kernel)
def M_NS_isSame : wM := (⟨"CodePointSets$NamedSets", "isSame", "(LCodePointSets$CodeRow;Ljava/lang/String;)Z"⟩, prog_5_method_3_code, 3, (some (.boolean)))
set_option maxRecDepth 100000 in
theorem yM_NS_isSame : wCy M_NS_isSame 2 := ⟨wIn 291 rfl (by decide +kernel), wIn 10 (by decide +kernel) (by decide +kernel), by decide +kernel, by decide +kernel, by decide +kernel, by decide +kernel⟩
theorem sM_NS_isSame : Cond.static M_NS_isSame.1 ∈ wWL := wIn 290 (by decide +kernel) (by decide +kernel)
def M_NS_edgesOf : wM := (⟨"CodePointSets$NamedSets", "edgesOf", "(I)[I"⟩, prog_5_method_5_code, 1, (some (.array .int)))
set_option maxRecDepth 100000 in
theorem yM_NS_edgesOf : wCy M_NS_edgesOf 1 := ⟨wIn 449 rfl (by decide +kernel), wIn 10 (by decide +kernel) (by decide +kernel), by decide +kernel, by decide +kernel, by decide +kernel, by decide +kernel⟩
theorem sM_NS_edgesOf : Cond.static M_NS_edgesOf.1 ∈ wWL := wIn 448 (by decide +kernel) (by decide +kernel)
def M_OB_init : wM := (⟨"CodePointSets$OpenBracket", "<init>", "()V"⟩, prog_6_method_1_code, 1, none)
set_option maxRecDepth 100000 in
theorem yM_OB_init : wCy M_OB_init 0 := ⟨wIn 112 rfl (by decide +kernel), wIn 6 (by decide +kernel) (by decide +kernel), by decide +kernel, by decide +kernel, by decide +kernel, by decide +kernel⟩
theorem iM_OB_init : Cond.instanceMethod M_OB_init.1 ∈ wWL := wIn 111 (by decide +kernel) (by decide +kernel)
def M_OB_begin : wM := (⟨"CodePointSets$OpenBracket", "begin", "(Z)V"⟩, prog_6_method_2_code, 2, none)
set_option maxRecDepth 100000 in
theorem yM_OB_begin : wCy M_OB_begin 1 := ⟨wIn 392 rfl (by decide +kernel), wIn 6 (by decide +kernel) (by decide +kernel), by decide +kernel, by decide +kernel, by decide +kernel, by decide +kernel⟩
theorem vM_OB_begin : wCv M_OB_begin := ⟨wIn 390 (by decide +kernel) (by decide +kernel), wIn 391 (by decide +kernel) (by decide +kernel)⟩
def M_PW_init : wM := (⟨"CodePointSets$PatternWriter", "<init>", "()V"⟩, prog_8_method_1_code, 1, none)
set_option maxRecDepth 100000 in
theorem yM_PW_init : wCy M_PW_init 0 := ⟨wIn 165 rfl (by decide +kernel), wIn 7 (by decide +kernel) (by decide +kernel), by decide +kernel, by decide +kernel, by decide +kernel, by decide +kernel⟩
theorem iM_PW_init : Cond.instanceMethod M_PW_init.1 ∈ wWL := wIn 164 (by decide +kernel) (by decide +kernel)
def M_PW_writePattern : wM := (⟨"CodePointSets$PatternWriter", "writePattern", "(LCodePointSets$MemberSet;)Z"⟩, prog_8_method_2_code, 3, (some (.boolean)))
set_option maxRecDepth 100000 in
theorem yM_PW_writePattern : wCy M_PW_writePattern 1 := ⟨wIn 519 rfl (by decide +kernel), wIn 7 (by decide +kernel) (by decide +kernel), by decide +kernel, by decide +kernel, by decide +kernel, by decide +kernel⟩
theorem vM_PW_writePattern : wCv M_PW_writePattern := ⟨wIn 517 (by decide +kernel) (by decide +kernel), wIn 518 (by decide +kernel) (by decide +kernel)⟩
def M_PW_put : wM := (⟨"CodePointSets$PatternWriter", "put", "(I)V"⟩, prog_8_method_7_code, 2, none)
set_option maxRecDepth 100000 in
theorem yM_PW_put : wCy M_PW_put 1 := ⟨wIn 524 rfl (by decide +kernel), wIn 7 (by decide +kernel) (by decide +kernel), by decide +kernel, by decide +kernel, by decide +kernel, by decide +kernel⟩
theorem vM_PW_put : wCv M_PW_put := ⟨wIn 523 (by decide +kernel) (by decide +kernel), wSel (n := 2) (by decide +kernel)⟩
def M_PW_writeRange : wM := (⟨"CodePointSets$PatternWriter", "writeRange", "(II)V"⟩, prog_8_method_3_code, 3, none)
set_option maxRecDepth 100000 in
theorem yM_PW_writeRange : wCy M_PW_writeRange 2 := ⟨wIn 529 rfl (by decide +kernel), wIn 7 (by decide +kernel) (by decide +kernel), by decide +kernel, by decide +kernel, by decide +kernel, by decide +kernel⟩
theorem vM_PW_writeRange : wCv M_PW_writeRange := ⟨wIn 528 (by decide +kernel) (by decide +kernel), wSel (n := 2) (by decide +kernel)⟩
def M_PW_writeCode : wM := (⟨"CodePointSets$PatternWriter", "writeCode", "(I)V"⟩, prog_8_method_5_code, 2, none)
set_option maxRecDepth 100000 in
theorem yM_PW_writeCode : wCy M_PW_writeCode 1 := ⟨wIn 533 rfl (by decide +kernel), wIn 7 (by decide +kernel) (by decide +kernel), by decide +kernel, by decide +kernel, by decide +kernel, by decide +kernel⟩
theorem vM_PW_writeCode : wCv M_PW_writeCode := ⟨wIn 532 (by decide +kernel) (by decide +kernel), wSel (n := 2) (by decide +kernel)⟩
def M_PW_writeHex : wM := (⟨"CodePointSets$PatternWriter", "writeHex", "(I)V"⟩, prog_8_method_6_code, 4, none)
set_option maxRecDepth 100000 in
theorem yM_PW_writeHex : wCy M_PW_writeHex 1 := ⟨wIn 537 rfl (by decide +kernel), wIn 7 (by decide +kernel) (by decide +kernel), by decide +kernel, by decide +kernel, by decide +kernel, by decide +kernel⟩
theorem vM_PW_writeHex : wCv M_PW_writeHex := ⟨wIn 536 (by decide +kernel) (by decide +kernel), wSel (n := 2) (by decide +kernel)⟩
def M_PW_isSign : wM := (⟨"CodePointSets$PatternWriter", "isSign", "(I)Z"⟩, prog_8_method_8_code, 1, (some (.boolean)))
set_option maxRecDepth 100000 in
theorem yM_PW_isSign : wCy M_PW_isSign 1 := ⟨wIn 540 rfl (by decide +kernel), wIn 7 (by decide +kernel) (by decide +kernel), by decide +kernel, by decide +kernel, by decide +kernel, by decide +kernel⟩
theorem sM_PW_isSign : Cond.static M_PW_isSign.1 ∈ wWL := wIn 539 (by decide +kernel) (by decide +kernel)
def M_PW_writeString : wM := (⟨"CodePointSets$PatternWriter", "writeString", "(J)V"⟩, prog_8_method_4_code, 5, none)
set_option maxRecDepth 100000 in
theorem yM_PW_writeString : wCy M_PW_writeString 1 := ⟨wIn 544 rfl (by decide +kernel), wIn 7 (by decide +kernel) (by decide +kernel), by decide +kernel, by decide +kernel, by decide +kernel, by decide +kernel⟩
theorem vM_PW_writeString : wCv M_PW_writeString := ⟨wIn 543 (by decide +kernel) (by decide +kernel), wSel (n := 2) (by decide +kernel)⟩
def M_TR_init : wM := (⟨"CodePointSets$TokenRow", "<init>", "()V"⟩, prog_9_method_1_code, 1, none)
set_option maxRecDepth 100000 in
theorem yM_TR_init : wCy M_TR_init 0 := ⟨wIn 81 rfl (by decide +kernel), wIn 5 (by decide +kernel) (by decide +kernel), by decide +kernel, by decide +kernel, by decide +kernel, by decide +kernel⟩
theorem iM_TR_init : Cond.instanceMethod M_TR_init.1 ∈ wWL := wIn 80 (by decide +kernel) (by decide +kernel)
def M_TR_cutText : wM := (⟨"CodePointSets$TokenRow", "cutText", "(LCodePointSets$CodeRow;)Z"⟩, prog_9_method_5_code, 3, (some (.boolean)))
set_option maxRecDepth 100000 in
theorem yM_TR_cutText : wCy M_TR_cutText 1 := ⟨wIn 239 rfl (by decide +kernel), wIn 5 (by decide +kernel) (by decide +kernel), by decide +kernel, by decide +kernel, by decide +kernel, by decide +kernel⟩
theorem vM_TR_cutText : wCv M_TR_cutText := ⟨wIn 237 (by decide +kernel) (by decide +kernel), wIn 238 (by decide +kernel) (by decide +kernel)⟩
def M_TR_takeToken : wM := (⟨"CodePointSets$TokenRow", "takeToken", "()Z"⟩, prog_9_method_6_code, 2, (some (.boolean)))
set_option maxRecDepth 100000 in
theorem yM_TR_takeToken : wCy M_TR_takeToken 0 := ⟨wIn 251 rfl (by decide +kernel), wIn 5 (by decide +kernel) (by decide +kernel), by decide +kernel, by decide +kernel, by decide +kernel, by decide +kernel⟩
theorem vM_TR_takeToken : wCv M_TR_takeToken := ⟨wIn 250 (by decide +kernel) (by decide +kernel), wSel (n := 6) (by decide +kernel)⟩
def M_TR_takeOpening : wM := (⟨"CodePointSets$TokenRow", "takeOpening", "()Z"⟩, prog_9_method_7_code, 4, (some (.boolean)))
set_option maxRecDepth 100000 in
theorem yM_TR_takeOpening : wCy M_TR_takeOpening 0 := ⟨wIn 255 rfl (by decide +kernel), wIn 5 (by decide +kernel) (by decide +kernel), by decide +kernel, by decide +kernel, by decide +kernel, by decide +kernel⟩
theorem vM_TR_takeOpening : wCv M_TR_takeOpening := ⟨wIn 254 (by decide +kernel) (by decide +kernel), wSel (n := 6) (by decide +kernel)⟩
def M_TR_add : wM := (⟨"CodePointSets$TokenRow", "add", "(III)Z"⟩, prog_9_method_14_code, 4, (some (.boolean)))
set_option maxRecDepth 100000 in
theorem yM_TR_add : wCy M_TR_add 3 := ⟨wIn 259 rfl (by decide +kernel), wIn 5 (by decide +kernel) (by decide +kernel), by decide +kernel, by decide +kernel, by decide +kernel, by decide +kernel⟩
theorem vM_TR_add : wCv M_TR_add := ⟨wIn 258 (by decide +kernel) (by decide +kernel), wSel (n := 6) (by decide +kernel)⟩
def M_TR_collectName : wM := (⟨"CodePointSets$TokenRow", "collectName", "(I)I"⟩, prog_9_method_12_code, 4, (some (.int)))
set_option maxRecDepth 100000 in
theorem yM_TR_collectName : wCy M_TR_collectName 1 := ⟨wIn 263 rfl (by decide +kernel), wIn 5 (by decide +kernel) (by decide +kernel), by decide +kernel, by decide +kernel, by decide +kernel, by decide +kernel⟩
theorem vM_TR_collectName : wCv M_TR_collectName := ⟨wIn 262 (by decide +kernel) (by decide +kernel), wSel (n := 6) (by decide +kernel)⟩
def M_TR_isLetter : wM := (⟨"CodePointSets$TokenRow", "isLetter", "(I)Z"⟩, prog_9_method_18_code, 1, (some (.boolean)))
set_option maxRecDepth 100000 in
theorem yM_TR_isLetter : wCy M_TR_isLetter 1 := ⟨wIn 267 rfl (by decide +kernel), wIn 5 (by decide +kernel) (by decide +kernel), by decide +kernel, by decide +kernel, by decide +kernel, by decide +kernel⟩
theorem sM_TR_isLetter : Cond.static M_TR_isLetter.1 ∈ wWL := wIn 266 (by decide +kernel) (by decide +kernel)
def M_TR_addProperty : wM := (⟨"CodePointSets$TokenRow", "addProperty", "(ZI)Z"⟩, prog_9_method_13_code, 4, (some (.boolean)))
set_option maxRecDepth 100000 in
theorem yM_TR_addProperty : wCy M_TR_addProperty 2 := ⟨wIn 272 rfl (by decide +kernel), wIn 5 (by decide +kernel) (by decide +kernel), by decide +kernel, by decide +kernel, by decide +kernel, by decide +kernel⟩
theorem vM_TR_addProperty : wCv M_TR_addProperty := ⟨wIn 271 (by decide +kernel) (by decide +kernel), wSel (n := 6) (by decide +kernel)⟩
def M_TR_takeBracedName : wM := (⟨"CodePointSets$TokenRow", "takeBracedName", "()Z"⟩, prog_9_method_11_code, 2, (some (.boolean)))
set_option maxRecDepth 100000 in
theorem yM_TR_takeBracedName : wCy M_TR_takeBracedName 0 := ⟨wIn 343 rfl (by decide +kernel), wIn 5 (by decide +kernel) (by decide +kernel), by decide +kernel, by decide +kernel, by decide +kernel, by decide +kernel⟩
theorem vM_TR_takeBracedName : wCv M_TR_takeBracedName := ⟨wIn 342 (by decide +kernel) (by decide +kernel), wSel (n := 6) (by decide +kernel)⟩
def M_TR_takeEscape : wM := (⟨"CodePointSets$TokenRow", "takeEscape", "()Z"⟩, prog_9_method_8_code, 2, (some (.boolean)))
set_option maxRecDepth 100000 in
theorem yM_TR_takeEscape : wCy M_TR_takeEscape 0 := ⟨wIn 347 rfl (by decide +kernel), wIn 5 (by decide +kernel) (by decide +kernel), by decide +kernel, by decide +kernel, by decide +kernel, by decide +kernel⟩
theorem vM_TR_takeEscape : wCv M_TR_takeEscape := ⟨wIn 346 (by decide +kernel) (by decide +kernel), wSel (n := 6) (by decide +kernel)⟩
def M_TR_takeFourDigits : wM := (⟨"CodePointSets$TokenRow", "takeFourDigits", "()Z"⟩, prog_9_method_9_code, 2, (some (.boolean)))
set_option maxRecDepth 100000 in
theorem yM_TR_takeFourDigits : wCy M_TR_takeFourDigits 0 := ⟨wIn 351 rfl (by decide +kernel), wIn 5 (by decide +kernel) (by decide +kernel), by decide +kernel, by decide +kernel, by decide +kernel, by decide +kernel⟩
theorem vM_TR_takeFourDigits : wCv M_TR_takeFourDigits := ⟨wIn 350 (by decide +kernel) (by decide +kernel), wSel (n := 6) (by decide +kernel)⟩
def M_TR_countHexDigits : wM := (⟨"CodePointSets$TokenRow", "countHexDigits", "(II)I"⟩, prog_9_method_15_code, 4, (some (.int)))
set_option maxRecDepth 100000 in
theorem yM_TR_countHexDigits : wCy M_TR_countHexDigits 2 := ⟨wIn 355 rfl (by decide +kernel), wIn 5 (by decide +kernel) (by decide +kernel), by decide +kernel, by decide +kernel, by decide +kernel, by decide +kernel⟩
theorem vM_TR_countHexDigits : wCv M_TR_countHexDigits := ⟨wIn 354 (by decide +kernel) (by decide +kernel), wSel (n := 6) (by decide +kernel)⟩
def M_TR_hexDigit : wM := (⟨"CodePointSets$TokenRow", "hexDigit", "(I)I"⟩, prog_9_method_17_code, 1, (some (.int)))
set_option maxRecDepth 100000 in
theorem yM_TR_hexDigit : wCy M_TR_hexDigit 1 := ⟨wIn 358 rfl (by decide +kernel), wIn 5 (by decide +kernel) (by decide +kernel), by decide +kernel, by decide +kernel, by decide +kernel, by decide +kernel⟩
theorem sM_TR_hexDigit : Cond.static M_TR_hexDigit.1 ∈ wWL := wIn 357 (by decide +kernel) (by decide +kernel)
def M_TR_hexValue : wM := (⟨"CodePointSets$TokenRow", "hexValue", "(II)I"⟩, prog_9_method_16_code, 5, (some (.int)))
set_option maxRecDepth 100000 in
theorem yM_TR_hexValue : wCy M_TR_hexValue 2 := ⟨wIn 362 rfl (by decide +kernel), wIn 5 (by decide +kernel) (by decide +kernel), by decide +kernel, by decide +kernel, by decide +kernel, by decide +kernel⟩
theorem vM_TR_hexValue : wCv M_TR_hexValue := ⟨wIn 361 (by decide +kernel) (by decide +kernel), wSel (n := 6) (by decide +kernel)⟩
def M_TR_takeBracedDigits : wM := (⟨"CodePointSets$TokenRow", "takeBracedDigits", "()Z"⟩, prog_9_method_10_code, 4, (some (.boolean)))
set_option maxRecDepth 100000 in
theorem yM_TR_takeBracedDigits : wCy M_TR_takeBracedDigits 0 := ⟨wIn 366 rfl (by decide +kernel), wIn 5 (by decide +kernel) (by decide +kernel), by decide +kernel, by decide +kernel, by decide +kernel, by decide +kernel⟩
theorem vM_TR_takeBracedDigits : wCv M_TR_takeBracedDigits := ⟨wIn 365 (by decide +kernel) (by decide +kernel), wSel (n := 6) (by decide +kernel)⟩
def M_TR_kindAt : wM := (⟨"CodePointSets$TokenRow", "kindAt", "(I)I"⟩, prog_9_method_2_code, 2, (some (.int)))
set_option maxRecDepth 100000 in
theorem yM_TR_kindAt : wCy M_TR_kindAt 1 := ⟨wIn 379 rfl (by decide +kernel), wIn 5 (by decide +kernel) (by decide +kernel), by decide +kernel, by decide +kernel, by decide +kernel, by decide +kernel⟩
theorem vM_TR_kindAt : wCv M_TR_kindAt := ⟨wIn 377 (by decide +kernel) (by decide +kernel), wIn 378 (by decide +kernel) (by decide +kernel)⟩
def M_TR_beginsSet : wM := (⟨"CodePointSets$TokenRow", "beginsSet", "(I)Z"⟩, prog_9_method_4_code, 3, (some (.boolean)))
set_option maxRecDepth 100000 in
theorem yM_TR_beginsSet : wCy M_TR_beginsSet 1 := ⟨wIn 383 rfl (by decide +kernel), wIn 5 (by decide +kernel) (by decide +kernel), by decide +kernel, by decide +kernel, by decide +kernel, by decide +kernel⟩
theorem vM_TR_beginsSet : wCv M_TR_beginsSet := ⟨wIn 381 (by decide +kernel) (by decide +kernel), wIn 382 (by decide +kernel) (by decide +kernel)⟩
def M_TR_valueAt : wM := (⟨"CodePointSets$TokenRow", "valueAt", "(I)I"⟩, prog_9_method_3_code, 2, (some (.int)))
set_option maxRecDepth 100000 in
theorem yM_TR_valueAt : wCy M_TR_valueAt 1 := ⟨wIn 446 rfl (by decide +kernel), wIn 5 (by decide +kernel) (by decide +kernel), by decide +kernel, by decide +kernel, by decide +kernel, by decide +kernel⟩
theorem vM_TR_valueAt : wCv M_TR_valueAt := ⟨wIn 444 (by decide +kernel) (by decide +kernel), wIn 445 (by decide +kernel) (by decide +kernel)⟩
def M_PR_init : wM := (⟨"CodePointSets$PatternReader", "<init>", "()V"⟩, prog_7_method_1_code, 2, none)
set_option maxRecDepth 100000 in
theorem yM_PR_init : wCy M_PR_init 0 := ⟨wIn 75 rfl (by decide +kernel), wIn 4 (by decide +kernel) (by decide +kernel), by decide +kernel, by decide +kernel, by decide +kernel, by decide +kernel⟩
theorem iM_PR_init : Cond.instanceMethod M_PR_init.1 ∈ wWL := wIn 74 (by decide +kernel) (by decide +kernel)
def M_PR_readPattern : wM := (⟨"CodePointSets$PatternReader", "readPattern", "()Z"⟩, prog_7_method_2_code, 2, (some (.boolean)))
set_option maxRecDepth 100000 in
theorem yM_PR_readPattern : wCy M_PR_readPattern 0 := ⟨wIn 371 rfl (by decide +kernel), wIn 4 (by decide +kernel) (by decide +kernel), by decide +kernel, by decide +kernel, by decide +kernel, by decide +kernel⟩
theorem vM_PR_readPattern : wCv M_PR_readPattern := ⟨wIn 369 (by decide +kernel) (by decide +kernel), wIn 370 (by decide +kernel) (by decide +kernel)⟩
def M_PR_readPart : wM := (⟨"CodePointSets$PatternReader", "readPart", "()Z"⟩, prog_7_method_3_code, 2, (some (.boolean)))
set_option maxRecDepth 100000 in
theorem yM_PR_readPart : wCy M_PR_readPart 0 := ⟨wIn 375 rfl (by decide +kernel), wIn 4 (by decide +kernel) (by decide +kernel), by decide +kernel, by decide +kernel, by decide +kernel, by decide +kernel⟩
theorem vM_PR_readPart : wCv M_PR_readPart := ⟨wIn 374 (by decide +kernel) (by decide +kernel), wSel (n := 7) (by decide +kernel)⟩
def M_PR_openBracket : wM := (⟨"CodePointSets$PatternReader", "openBracket", "(Z)Z"⟩, prog_7_method_4_code, 2, (some (.boolean)))
set_option maxRecDepth 100000 in
theorem yM_PR_openBracket : wCy M_PR_openBracket 1 := ⟨wIn 388 rfl (by decide +kernel), wIn 4 (by decide +kernel) (by decide +kernel), by decide +kernel, by decide +kernel, by decide +kernel, by decide +kernel⟩
theorem vM_PR_openBracket : wCv M_PR_openBracket := ⟨wIn 387 (by decide +kernel) (by decide +kernel), wSel (n := 7) (by decide +kernel)⟩
def M_PR_endBracket : wM := (⟨"CodePointSets$PatternReader", "endBracket", "()Z"⟩, prog_7_method_5_code, 3, (some (.boolean)))
set_option maxRecDepth 100000 in
theorem yM_PR_endBracket : wCy M_PR_endBracket 0 := ⟨wIn 400 rfl (by decide +kernel), wIn 4 (by decide +kernel) (by decide +kernel), by decide +kernel, by decide +kernel, by decide +kernel, by decide +kernel⟩
theorem vM_PR_endBracket : wCv M_PR_endBracket := ⟨wIn 399 (by decide +kernel) (by decide +kernel), wSel (n := 7) (by decide +kernel)⟩
def M_PR_innermost : wM := (⟨"CodePointSets$PatternReader", "innermost", "()LCodePointSets$OpenBracket;"⟩, prog_7_method_13_code, 1, (some (.object "CodePointSets$OpenBracket")))
set_option maxRecDepth 100000 in
theorem yM_PR_innermost : wCy M_PR_innermost 0 := ⟨wIn 404 rfl (by decide +kernel), wIn 4 (by decide +kernel) (by decide +kernel), by decide +kernel, by decide +kernel, by decide +kernel, by decide +kernel⟩
theorem vM_PR_innermost : wCv M_PR_innermost := ⟨wIn 403 (by decide +kernel) (by decide +kernel), wSel (n := 7) (by decide +kernel)⟩
def M_PR_join : wM := (⟨"CodePointSets$PatternReader", "join", "(LCodePointSets$MemberSet;Z)Z"⟩, prog_7_method_12_code, 5, (some (.boolean)))
set_option maxRecDepth 100000 in
theorem yM_PR_join : wCy M_PR_join 2 := ⟨wIn 418 rfl (by decide +kernel), wIn 4 (by decide +kernel) (by decide +kernel), by decide +kernel, by decide +kernel, by decide +kernel, by decide +kernel⟩
theorem vM_PR_join : wCv M_PR_join := ⟨wIn 417 (by decide +kernel) (by decide +kernel), wSel (n := 7) (by decide +kernel)⟩
def M_PR_readProperty : wM := (⟨"CodePointSets$PatternReader", "readProperty", "(Z)Z"⟩, prog_7_method_6_code, 3, (some (.boolean)))
set_option maxRecDepth 100000 in
theorem yM_PR_readProperty : wCy M_PR_readProperty 1 := ⟨wIn 442 rfl (by decide +kernel), wIn 4 (by decide +kernel) (by decide +kernel), by decide +kernel, by decide +kernel, by decide +kernel, by decide +kernel⟩
theorem vM_PR_readProperty : wCv M_PR_readProperty := ⟨wIn 441 (by decide +kernel) (by decide +kernel), wSel (n := 7) (by decide +kernel)⟩
def M_PR_readString : wM := (⟨"CodePointSets$PatternReader", "readString", "()Z"⟩, prog_7_method_7_code, 4, (some (.boolean)))
set_option maxRecDepth 100000 in
theorem yM_PR_readString : wCy M_PR_readString 0 := ⟨wIn 477 rfl (by decide +kernel), wIn 4 (by decide +kernel) (by decide +kernel), by decide +kernel, by decide +kernel, by decide +kernel, by decide +kernel⟩
theorem vM_PR_readString : wCv M_PR_readString := ⟨wIn 476 (by decide +kernel) (by decide +kernel), wSel (n := 7) (by decide +kernel)⟩
def M_PR_takeRange : wM := (⟨"CodePointSets$PatternReader", "takeRange", "(III)V"⟩, prog_7_method_11_code, 4, none)
set_option maxRecDepth 100000 in
theorem yM_PR_takeRange : wCy M_PR_takeRange 3 := ⟨wIn 481 rfl (by decide +kernel), wIn 4 (by decide +kernel) (by decide +kernel), by decide +kernel, by decide +kernel, by decide +kernel, by decide +kernel⟩
theorem vM_PR_takeRange : wCv M_PR_takeRange := ⟨wIn 480 (by decide +kernel) (by decide +kernel), wSel (n := 7) (by decide +kernel)⟩
def M_PR_readChar : wM := (⟨"CodePointSets$PatternReader", "readChar", "()Z"⟩, prog_7_method_8_code, 3, (some (.boolean)))
set_option maxRecDepth 100000 in
theorem yM_PR_readChar : wCy M_PR_readChar 0 := ⟨wIn 497 rfl (by decide +kernel), wIn 4 (by decide +kernel) (by decide +kernel), by decide +kernel, by decide +kernel, by decide +kernel, by decide +kernel⟩
theorem vM_PR_readChar : wCv M_PR_readChar := ⟨wIn 496 (by decide +kernel) (by decide +kernel), wSel (n := 7) (by decide +kernel)⟩
def M_PR_readHyphen : wM := (⟨"CodePointSets$PatternReader", "readHyphen", "()Z"⟩, prog_7_method_9_code, 1, (some (.boolean)))
set_option maxRecDepth 100000 in
theorem yM_PR_readHyphen : wCy M_PR_readHyphen 0 := ⟨wIn 501 rfl (by decide +kernel), wIn 4 (by decide +kernel) (by decide +kernel), by decide +kernel, by decide +kernel, by decide +kernel, by decide +kernel⟩
theorem vM_PR_readHyphen : wCv M_PR_readHyphen := ⟨wIn 500 (by decide +kernel) (by decide +kernel), wSel (n := 7) (by decide +kernel)⟩
def M_PR_readSign : wM := (⟨"CodePointSets$PatternReader", "readSign", "(I)Z"⟩, prog_7_method_10_code, 3, (some (.boolean)))
set_option maxRecDepth 100000 in
theorem yM_PR_readSign : wCy M_PR_readSign 1 := ⟨wIn 505 rfl (by decide +kernel), wIn 4 (by decide +kernel) (by decide +kernel), by decide +kernel, by decide +kernel, by decide +kernel, by decide +kernel⟩
theorem vM_PR_readSign : wCv M_PR_readSign := ⟨wIn 504 (by decide +kernel) (by decide +kernel), wSel (n := 7) (by decide +kernel)⟩
def M_CP_init : wM := (⟨"CodePointSets", "<init>", "()V"⟩, prog_1_method_1_code, 2, none)
set_option maxRecDepth 100000 in
theorem yM_CP_init : wCy M_CP_init 0 := ⟨wIn 20 rfl (by decide +kernel), wIn 1 (by decide +kernel) (by decide +kernel), by decide +kernel, by decide +kernel, by decide +kernel, by decide +kernel⟩
theorem iM_CP_init : Cond.instanceMethod M_CP_init.1 ∈ wWL := wIn 19 (by decide +kernel) (by decide +kernel)
def M_CP_type : wM := (⟨"CodePointSets", "type", "(I)Z"⟩, prog_1_method_2_code, 2, (some (.boolean)))
set_option maxRecDepth 100000 in
theorem yM_CP_type : wCy M_CP_type 1 := ⟨wIn 199 rfl (by decide +kernel), wIn 1 (by decide +kernel) (by decide +kernel), by decide +kernel, by decide +kernel, by decide +kernel, by decide +kernel⟩
theorem vM_CP_type : wCv M_CP_type := ⟨wIn 197 (by decide +kernel) (by decide +kernel), wIn 198 (by decide +kernel) (by decide +kernel)⟩
def M_CP_isCodePoint : wM := (⟨"CodePointSets", "isCodePoint", "(I)Z"⟩, prog_1_method_24_code, 1, (some (.boolean)))
set_option maxRecDepth 100000 in
theorem yM_CP_isCodePoint : wCy M_CP_isCodePoint 1 := ⟨wIn 202 rfl (by decide +kernel), wIn 1 (by decide +kernel) (by decide +kernel), by decide +kernel, by decide +kernel, by decide +kernel, by decide +kernel⟩
theorem sM_CP_isCodePoint : Cond.static M_CP_isCodePoint.1 ∈ wWL := wIn 201 (by decide +kernel) (by decide +kernel)
def M_CP_wipe : wM := (⟨"CodePointSets", "wipe", "()V"⟩, prog_1_method_3_code, 1, none)
set_option maxRecDepth 100000 in
theorem yM_CP_wipe : wCy M_CP_wipe 0 := ⟨wIn 211 rfl (by decide +kernel), wIn 1 (by decide +kernel) (by decide +kernel), by decide +kernel, by decide +kernel, by decide +kernel, by decide +kernel⟩
theorem vM_CP_wipe : wCv M_CP_wipe := ⟨wIn 209 (by decide +kernel) (by decide +kernel), wIn 210 (by decide +kernel) (by decide +kernel)⟩
def M_CP_length : wM := (⟨"CodePointSets", "length", "()I"⟩, prog_1_method_4_code, 1, (some (.int)))
set_option maxRecDepth 100000 in
theorem yM_CP_length : wCy M_CP_length 0 := ⟨wIn 219 rfl (by decide +kernel), wIn 1 (by decide +kernel) (by decide +kernel), by decide +kernel, by decide +kernel, by decide +kernel, by decide +kernel⟩
theorem vM_CP_length : wCv M_CP_length := ⟨wIn 217 (by decide +kernel) (by decide +kernel), wIn 218 (by decide +kernel) (by decide +kernel)⟩
def M_CP_at : wM := (⟨"CodePointSets", "at", "(I)I"⟩, prog_1_method_5_code, 2, (some (.int)))
set_option maxRecDepth 100000 in
theorem yM_CP_at : wCy M_CP_at 1 := ⟨wIn 223 rfl (by decide +kernel), wIn 1 (by decide +kernel) (by decide +kernel), by decide +kernel, by decide +kernel, by decide +kernel, by decide +kernel⟩
theorem vM_CP_at : wCv M_CP_at := ⟨wIn 221 (by decide +kernel) (by decide +kernel), wIn 222 (by decide +kernel) (by decide +kernel)⟩
def M_CP_apply : wM := (⟨"CodePointSets", "apply", "(I)Z"⟩, prog_1_method_6_code, 3, (some (.boolean)))
set_option maxRecDepth 100000 in
theorem yM_CP_apply : wCy M_CP_apply 1 := ⟨wIn 231 rfl (by decide +kernel), wIn 1 (by decide +kernel) (by decide +kernel), by decide +kernel, by decide +kernel, by decide +kernel, by decide +kernel⟩
theorem vM_CP_apply : wCv M_CP_apply := ⟨wIn 229 (by decide +kernel) (by decide +kernel), wIn 230 (by decide +kernel) (by decide +kernel)⟩
def M_CP_registerAt : wM := (⟨"CodePointSets", "registerAt", "(I)LCodePointSets$MemberSet;"⟩, prog_1_method_22_code, 2, (some (.object "CodePointSets$MemberSet")))
set_option maxRecDepth 100000 in
theorem yM_CP_registerAt : wCy M_CP_registerAt 1 := ⟨wIn 235 rfl (by decide +kernel), wIn 1 (by decide +kernel) (by decide +kernel), by decide +kernel, by decide +kernel, by decide +kernel, by decide +kernel⟩
theorem vM_CP_registerAt : wCv M_CP_registerAt := ⟨wIn 234 (by decide +kernel) (by decide +kernel), wSel (n := 6) (by decide +kernel)⟩
def M_CP_print : wM := (⟨"CodePointSets", "print", "(I)I"⟩, prog_1_method_7_code, 3, (some (.int)))
set_option maxRecDepth 100000 in
theorem yM_CP_print : wCy M_CP_print 1 := ⟨wIn 515 rfl (by decide +kernel), wIn 1 (by decide +kernel) (by decide +kernel), by decide +kernel, by decide +kernel, by decide +kernel, by decide +kernel⟩
theorem vM_CP_print : wCv M_CP_print := ⟨wIn 513 (by decide +kernel) (by decide +kernel), wIn 514 (by decide +kernel) (by decide +kernel)⟩
def M_CP_combine : wM := (⟨"CodePointSets", "combine", "(III)Z"⟩, prog_1_method_8_code, 6, (some (.boolean)))
set_option maxRecDepth 100000 in
theorem yM_CP_combine : wCy M_CP_combine 3 := ⟨wIn 553 rfl (by decide +kernel), wIn 1 (by decide +kernel) (by decide +kernel), by decide +kernel, by decide +kernel, by decide +kernel, by decide +kernel⟩
theorem vM_CP_combine : wCv M_CP_combine := ⟨wIn 551 (by decide +kernel) (by decide +kernel), wIn 552 (by decide +kernel) (by decide +kernel)⟩
def M_CP_keepSpare : wM := (⟨"CodePointSets", "keepSpare", "(I)Z"⟩, prog_1_method_23_code, 3, (some (.boolean)))
set_option maxRecDepth 100000 in
theorem yM_CP_keepSpare : wCy M_CP_keepSpare 1 := ⟨wIn 558 rfl (by decide +kernel), wIn 1 (by decide +kernel) (by decide +kernel), by decide +kernel, by decide +kernel, by decide +kernel, by decide +kernel⟩
theorem vM_CP_keepSpare : wCv M_CP_keepSpare := ⟨wIn 557 (by decide +kernel) (by decide +kernel), wSel (n := 6) (by decide +kernel)⟩
def M_CP_turn : wM := (⟨"CodePointSets", "turn", "(I)Z"⟩, prog_1_method_9_code, 3, (some (.boolean)))
set_option maxRecDepth 100000 in
theorem yM_CP_turn : wCy M_CP_turn 1 := ⟨wIn 562 rfl (by decide +kernel), wIn 1 (by decide +kernel) (by decide +kernel), by decide +kernel, by decide +kernel, by decide +kernel, by decide +kernel⟩
theorem vM_CP_turn : wCv M_CP_turn := ⟨wIn 560 (by decide +kernel) (by decide +kernel), wIn 561 (by decide +kernel) (by decide +kernel)⟩
def M_CP_close : wM := (⟨"CodePointSets", "close", "(I)I"⟩, prog_1_method_10_code, 4, (some (.int)))
set_option maxRecDepth 100000 in
theorem yM_CP_close : wCy M_CP_close 1 := ⟨wIn 567 rfl (by decide +kernel), wIn 1 (by decide +kernel) (by decide +kernel), by decide +kernel, by decide +kernel, by decide +kernel, by decide +kernel⟩
theorem vM_CP_close : wCv M_CP_close := ⟨wIn 565 (by decide +kernel) (by decide +kernel), wIn 566 (by decide +kernel) (by decide +kernel)⟩
def M_CP_contains : wM := (⟨"CodePointSets", "contains", "(II)Z"⟩, prog_1_method_11_code, 4, (some (.boolean)))
set_option maxRecDepth 100000 in
theorem yM_CP_contains : wCy M_CP_contains 2 := ⟨wIn 596 rfl (by decide +kernel), wIn 1 (by decide +kernel) (by decide +kernel), by decide +kernel, by decide +kernel, by decide +kernel, by decide +kernel⟩
theorem vM_CP_contains : wCv M_CP_contains := ⟨wIn 594 (by decide +kernel) (by decide +kernel), wIn 595 (by decide +kernel) (by decide +kernel)⟩
def M_CP_has : wM := (⟨"CodePointSets", "has", "(I)Z"⟩, prog_1_method_12_code, 3, (some (.boolean)))
set_option maxRecDepth 100000 in
theorem yM_CP_has : wCy M_CP_has 1 := ⟨wIn 601 rfl (by decide +kernel), wIn 1 (by decide +kernel) (by decide +kernel), by decide +kernel, by decide +kernel, by decide +kernel, by decide +kernel⟩
theorem vM_CP_has : wCv M_CP_has := ⟨wIn 599 (by decide +kernel) (by decide +kernel), wIn 600 (by decide +kernel) (by decide +kernel)⟩
def M_CP_textIsMember : wM := (⟨"CodePointSets", "textIsMember", "(LCodePointSets$MemberSet;II)Z"⟩, prog_1_method_21_code, 6, (some (.boolean)))
set_option maxRecDepth 100000 in
theorem yM_CP_textIsMember : wCy M_CP_textIsMember 3 := ⟨wIn 605 rfl (by decide +kernel), wIn 1 (by decide +kernel) (by decide +kernel), by decide +kernel, by decide +kernel, by decide +kernel, by decide +kernel⟩
theorem vM_CP_textIsMember : wCv M_CP_textIsMember := ⟨wIn 604 (by decide +kernel) (by decide +kernel), wSel (n := 6) (by decide +kernel)⟩
def M_CP_includes : wM := (⟨"CodePointSets", "includes", "(II)Z"⟩, prog_1_method_13_code, 5, (some (.boolean)))
set_option maxRecDepth 100000 in
theorem yM_CP_includes : wCy M_CP_includes 2 := ⟨wIn 614 rfl (by decide +kernel), wIn 1 (by decide +kernel) (by decide +kernel), by decide +kernel, by decide +kernel, by decide +kernel, by decide +kernel⟩
theorem vM_CP_includes : wCv M_CP_includes := ⟨wIn 612 (by decide +kernel) (by decide +kernel), wIn 613 (by decide +kernel) (by decide +kernel)⟩
def M_CP_size : wM := (⟨"CodePointSets", "size", "(I)I"⟩, prog_1_method_14_code, 3, (some (.int)))
set_option maxRecDepth 100000 in
theorem yM_CP_size : wCy M_CP_size 1 := ⟨wIn 618 rfl (by decide +kernel), wIn 1 (by decide +kernel) (by decide +kernel), by decide +kernel, by decide +kernel, by decide +kernel, by decide +kernel⟩
theorem vM_CP_size : wCv M_CP_size := ⟨wIn 616 (by decide +kernel) (by decide +kernel), wIn 617 (by decide +kernel) (by decide +kernel)⟩
def M_CP_strings : wM := (⟨"CodePointSets", "strings", "(I)I"⟩, prog_1_method_15_code, 3, (some (.int)))
set_option maxRecDepth 100000 in
theorem yM_CP_strings : wCy M_CP_strings 1 := ⟨wIn 622 rfl (by decide +kernel), wIn 1 (by decide +kernel) (by decide +kernel), by decide +kernel, by decide +kernel, by decide +kernel, by decide +kernel⟩
theorem vM_CP_strings : wCv M_CP_strings := ⟨wIn 620 (by decide +kernel) (by decide +kernel), wIn 621 (by decide +kernel) (by decide +kernel)⟩
def M_CP_edge : wM := (⟨"CodePointSets", "edge", "(II)I"⟩, prog_1_method_16_code, 4, (some (.int)))
set_option maxRecDepth 100000 in
theorem yM_CP_edge : wCy M_CP_edge 2 := ⟨wIn 626 rfl (by decide +kernel), wIn 1 (by decide +kernel) (by decide +kernel), by decide +kernel, by decide +kernel, by decide +kernel, by decide +kernel⟩
theorem vM_CP_edge : wCv M_CP_edge := ⟨wIn 624 (by decide +kernel) (by decide +kernel), wIn 625 (by decide +kernel) (by decide +kernel)⟩
def M_CP_nth : wM := (⟨"CodePointSets", "nth", "(II)I"⟩, prog_1_method_17_code, 4, (some (.int)))
set_option maxRecDepth 100000 in
theorem yM_CP_nth : wCy M_CP_nth 2 := ⟨wIn 630 rfl (by decide +kernel), wIn 1 (by decide +kernel) (by decide +kernel), by decide +kernel, by decide +kernel, by decide +kernel, by decide +kernel⟩
theorem vM_CP_nth : wCv M_CP_nth := ⟨wIn 628 (by decide +kernel) (by decide +kernel), wIn 629 (by decide +kernel) (by decide +kernel)⟩
def M_CP_span : wM := (⟨"CodePointSets", "span", "(IIZ)I"⟩, prog_1_method_18_code, 5, (some (.int)))
set_option maxRecDepth 100000 in
theorem yM_CP_span : wCy M_CP_span 3 := ⟨wIn 638 rfl (by decide +kernel), wIn 1 (by decide +kernel) (by decide +kernel), by decide +kernel, by decide +kernel, by decide +kernel, by decide +kernel⟩
theorem vM_CP_span : wCv M_CP_span := ⟨wIn 636 (by decide +kernel) (by decide +kernel), wIn 637 (by decide +kernel) (by decide +kernel)⟩
def M_CP_endOfMembers : wM := (⟨"CodePointSets", "endOfMembers", "(LCodePointSets$MemberSet;I)I"⟩, prog_1_method_19_code, 8, (some (.int)))
set_option maxRecDepth 100000 in
theorem yM_CP_endOfMembers : wCy M_CP_endOfMembers 2 := ⟨wIn 642 rfl (by decide +kernel), wIn 1 (by decide +kernel) (by decide +kernel), by decide +kernel, by decide +kernel, by decide +kernel, by decide +kernel⟩
theorem vM_CP_endOfMembers : wCv M_CP_endOfMembers := ⟨wIn 641 (by decide +kernel) (by decide +kernel), wSel (n := 6) (by decide +kernel)⟩
def M_CP_beginOfMember : wM := (⟨"CodePointSets", "beginOfMember", "(LCodePointSets$MemberSet;I)I"⟩, prog_1_method_20_code, 5, (some (.int)))
set_option maxRecDepth 100000 in
theorem yM_CP_beginOfMember : wCy M_CP_beginOfMember 2 := ⟨wIn 646 rfl (by decide +kernel), wIn 1 (by decide +kernel) (by decide +kernel), by decide +kernel, by decide +kernel, by decide +kernel, by decide +kernel⟩
theorem vM_CP_beginOfMember : wCv M_CP_beginOfMember := ⟨wIn 645 (by decide +kernel) (by decide +kernel), wSel (n := 6) (by decide +kernel)⟩
def M_ST_length : wM := (⟨"java/lang/String", "length", "()I"⟩, prog_12_method_54_code, 1, (some (.int)))
set_option maxRecDepth 100000 in
theorem yM_ST_length : wCy M_ST_length 0 := ⟨wIn 295 rfl (by decide +kernel), wIn 11 (by decide +kernel) (by decide +kernel), by decide +kernel, by decide +kernel, by decide +kernel, by decide +kernel⟩
theorem vM_ST_length : wCv M_ST_length := ⟨wIn 293 (by decide +kernel) (by decide +kernel), wIn 294 (by decide +kernel) (by decide +kernel)⟩
def M_ST_coder : wM := (⟨"java/lang/String", "coder", "()B"⟩, prog_12_method_152_code, 1, (some (.byte)))
set_option maxRecDepth 100000 in
theorem yM_ST_coder : wCy M_ST_coder 0 := ⟨wIn 299 rfl (by decide +kernel), wIn 11 (by decide +kernel) (by decide +kernel), by decide +kernel, by decide +kernel, by decide +kernel, by decide +kernel⟩
theorem vM_ST_coder : wCv M_ST_coder := ⟨wIn 297 (by decide +kernel) (by decide +kernel), wIn 298 (by decide +kernel) (by decide +kernel)⟩
def M_ST_charAt : wM := (⟨"java/lang/String", "charAt", "(I)C"⟩, prog_12_method_56_code, 2, (some (.char)))
set_option maxRecDepth 100000 in
theorem yM_ST_charAt : wCy M_ST_charAt 1 := ⟨wIn 305 rfl (by decide +kernel), wIn 11 (by decide +kernel) (by decide +kernel), by decide +kernel, by decide +kernel, by decide +kernel, by decide +kernel⟩
theorem vM_ST_charAt : wCv M_ST_charAt := ⟨wIn 303 (by decide +kernel) (by decide +kernel), wIn 304 (by decide +kernel) (by decide +kernel)⟩
def M_ST_isLatin1 : wM := (⟨"java/lang/String", "isLatin1", "()Z"⟩, prog_12_method_154_code, 1, (some (.boolean)))
set_option maxRecDepth 100000 in
theorem yM_ST_isLatin1 : wCy M_ST_isLatin1 0 := ⟨wIn 309 rfl (by decide +kernel), wIn 11 (by decide +kernel) (by decide +kernel), by decide +kernel, by decide +kernel, by decide +kernel, by decide +kernel⟩
theorem vM_ST_isLatin1 : wCv M_ST_isLatin1 := ⟨wIn 307 (by decide +kernel) (by decide +kernel), wIn 308 (by decide +kernel) (by decide +kernel)⟩
def M_ST_checkIndex : wM := (⟨"java/lang/String", "checkIndex", "(II)V"⟩, prog_12_method_155_code, 2, none)
set_option maxRecDepth 100000 in
theorem yM_ST_checkIndex : wCy M_ST_checkIndex 2 := ⟨wIn 315 rfl (by decide +kernel), wIn 11 (by decide +kernel) (by decide +kernel), by decide +kernel, by decide +kernel, by decide +kernel, by decide +kernel⟩
theorem sM_ST_checkIndex : Cond.static M_ST_checkIndex.1 ∈ wWL := wIn 314 (by decide +kernel) (by decide +kernel)
def M_SL_charAt : wM := (⟨"java/lang/StringLatin1", "charAt", "([BI)C"⟩, prog_13_method_2_code, 2, (some (.char)))
set_option maxRecDepth 100000 in
theorem yM_SL_charAt : wCy M_SL_charAt 2 := ⟨wIn 312 rfl (by decide +kernel), wIn 12 (by decide +kernel) (by decide +kernel), by decide +kernel, by decide +kernel, by decide +kernel, by decide +kernel⟩
theorem sM_SL_charAt : Cond.static M_SL_charAt.1 ∈ wWL := wIn 311 (by decide +kernel) (by decide +kernel)
/-! links of the pools of CA NS OB PW TR PR CP ST SL: written by wip/gen/mknames.py -/
theorem l_CA_7 : wCl "CodePointSets$CaseRules" 7 M_MS_clear := Or.inl (wIn 571 (by decide +kernel) (by decide +kernel))
theorem g_CA_12 : Cond.fieldLink "CodePointSets$CaseRules" 12 "CodePointSets$CaseRules" "CASED" "[I" ∈ wWL := wIn 572 (by decide +kernel) (by decide +kernel)
theorem l_CA_18 : wCl "CodePointSets$CaseRules" 18 M_CA_isAlikeToMember := Or.inl (wIn 574 (by decide +kernel) (by decide +kernel))
theorem l_CA_26 : wCl "CodePointSets$CaseRules" 26 M_CA_isLarge := Or.inl (wIn 577 (by decide +kernel) (by decide +kernel))
theorem g_CA_36 : Cond.fieldLink "CodePointSets$CaseRules" 36 "CodePointSets$CaseRules" "LARGE" "[I" ∈ wWL := wIn 580 (by decide +kernel) (by decide +kernel)
theorem l_CA_30 : wCl "CodePointSets$CaseRules" 30 M_MS_holdsCode := Or.inl (wIn 582 (by decide +kernel) (by decide +kernel))
theorem g_CA_33 : Cond.fieldLink "CodePointSets$CaseRules" 33 "CodePointSets$CaseRules" "TRIPLES" "[I" ∈ wWL := wIn 586 (by decide +kernel) (by decide +kernel)
theorem l_CA_22 : wCl "CodePointSets$CaseRules" 22 M_MS_appendRange := Or.inl (wIn 588 (by decide +kernel) (by decide +kernel))
theorem f_NS_31 : wF "CodePointSets$NamedSets" 31 0 0 := ⟨("CodePointSets$CodeRow", wT_CR, 2), rfl, by decide, Or.inr ⟨"CodePointSets", by decide +kernel⟩⟩
theorem f_NS_19 : wF "CodePointSets$NamedSets" 19 0 1 := ⟨("CodePointSets$CodeRow", wT_CR, 2), rfl, by decide, Or.inr ⟨"CodePointSets", by decide +kernel⟩⟩
theorem l_NS_11 : wCl "CodePointSets$NamedSets" 11 M_NS_nameOf := Or.inl (wIn 276 (by decide +kernel) (by decide +kernel))
theorem l_NS_15 : wCl "CodePointSets$NamedSets" 15 M_NS_isSame := Or.inl (wIn 289 (by decide +kernel) (by decide +kernel))
theorem l_NS_25 : wCl "CodePointSets$NamedSets" 25 M_ST_length := Or.inl (wIn 292 (by decide +kernel) (by decide +kernel))
theorem l_NS_35 : wCl "CodePointSets$NamedSets" 35 M_ST_charAt := Or.inl (wIn 302 (by decide +kernel) (by decide +kernel))
theorem g_NS_59 : Cond.fieldLink "CodePointSets$NamedSets" 59 "CodePointSets$NamedSets" "ANY" "[I" ∈ wWL := wIn 450 (by decide +kernel) (by decide +kernel)
theorem g_NS_62 : Cond.fieldLink "CodePointSets$NamedSets" 62 "CodePointSets$NamedSets" "ASCII" "[I" ∈ wWL := wIn 452 (by decide +kernel) (by decide +kernel)
theorem g_NS_65 : Cond.fieldLink "CodePointSets$NamedSets" 65 "CodePointSets$NamedSets" "DIGIT" "[I" ∈ wWL := wIn 454 (by decide +kernel) (by decide +kernel)
theorem g_NS_68 : Cond.fieldLink "CodePointSets$NamedSets" 68 "CodePointSets$NamedSets" "HEX_DIGIT" "[I" ∈ wWL := wIn 456 (by decide +kernel) (by decide +kernel)
theorem g_NS_71 : Cond.fieldLink "CodePointSets$NamedSets" 71 "CodePointSets$NamedSets" "UPPER" "[I" ∈ wWL := wIn 458 (by decide +kernel) (by decide +kernel)
theorem g_NS_74 : Cond.fieldLink "CodePointSets$NamedSets" 74 "CodePointSets$NamedSets" "LOWER" "[I" ∈ wWL := wIn 460 (by decide +kernel) (by decide +kernel)
theorem g_NS_77 : Cond.fieldLink "CodePointSets$NamedSets" 77 "CodePointSets$NamedSets" "LETTER" "[I" ∈ wWL := wIn 462 (by decide +kernel) (by decide +kernel)
theorem g_NS_80 : Cond.fieldLink "CodePointSets$NamedSets" 80 "CodePointSets$NamedSets" "GREEK" "[I" ∈ wWL := wIn 464 (by decide +kernel) (by decide +kernel)
theorem g_NS_83 : Cond.fieldLink "CodePointSets$NamedSets" 83 "CodePointSets$NamedSets" "SPACE" "[I" ∈ wWL := wIn 466 (by decide +kernel) (by decide +kernel)
theorem g_NS_86 : Cond.fieldLink "CodePointSets$NamedSets" 86 "CodePointSets$NamedSets" "SURROGATE" "[I" ∈ wWL := wIn 468 (by decide +kernel) (by decide +kernel)
theorem o_OB_3 : Cond.methodLink "CodePointSets$OpenBracket" 3 Lib.objectInit ∈ wWL := wIn 113 (by decide +kernel) (by decide +kernel)
theorem c_OB_9 : Cond.classLink "CodePointSets$OpenBracket" 9 "CodePointSets$MemberSet" ∈ wWL := wIn 114 (by decide +kernel) (by decide +kernel)
theorem n_OB_9 : wCN "CodePointSets$OpenBracket" 9 1 := ⟨("CodePointSets$MemberSet", wT_MS, 4), rfl, c_OB_9, wIn 44 (by decide +kernel) (by decide +kernel), wIn 3 (by decide +kernel) (by decide +kernel)⟩
theorem l_OB_11 : wCl "CodePointSets$OpenBracket" 11 M_MS_init := Or.inr ⟨"CodePointSets", by decide +kernel⟩
theorem f_OB_12 : wF "CodePointSets$OpenBracket" 12 2 0 := ⟨("CodePointSets$OpenBracket", wT_OB, 5), rfl, by decide, Or.inl (wIn 116 (by decide +kernel) (by decide +kernel))⟩
theorem f_OB_21 : wF "CodePointSets$OpenBracket" 21 2 1 := ⟨("CodePointSets$OpenBracket", wT_OB, 5), rfl, by decide, Or.inl (wIn 118 (by decide +kernel) (by decide +kernel))⟩
theorem f_OB_25 : wF "CodePointSets$OpenBracket" 25 2 2 := ⟨("CodePointSets$OpenBracket", wT_OB, 5), rfl, by decide, Or.inl (wIn 120 (by decide +kernel) (by decide +kernel))⟩
theorem f_OB_29 : wF "CodePointSets$OpenBracket" 29 2 3 := ⟨("CodePointSets$OpenBracket", wT_OB, 5), rfl, by decide, Or.inl (wIn 122 (by decide +kernel) (by decide +kernel))⟩
theorem f_OB_32 : wF "CodePointSets$OpenBracket" 32 2 4 := ⟨("CodePointSets$OpenBracket", wT_OB, 5), rfl, by decide, Or.inl (wIn 124 (by decide +kernel) (by decide +kernel))⟩
theorem l_OB_18 : wCl "CodePointSets$OpenBracket" 18 M_MS_clear := Or.inl (wIn 393 (by decide +kernel) (by decide +kernel))
theorem f_PW_35 : wF "CodePointSets$PatternWriter" 35 1 0 := ⟨("CodePointSets$MemberSet", wT_MS, 4), rfl, by decide, Or.inr ⟨"CodePointSets", by decide +kernel⟩⟩
theorem f_PW_29 : wF "CodePointSets$PatternWriter" 29 1 1 := ⟨("CodePointSets$MemberSet", wT_MS, 4), rfl, by decide, Or.inr ⟨"CodePointSets", by decide +kernel⟩⟩
theorem f_PW_46 : wF "CodePointSets$PatternWriter" 46 1 2 := ⟨("CodePointSets$MemberSet", wT_MS, 4), rfl, by decide, Or.inr ⟨"CodePointSets", by decide +kernel⟩⟩
theorem f_PW_43 : wF "CodePointSets$PatternWriter" 43 1 3 := ⟨("CodePointSets$MemberSet", wT_MS, 4), rfl, by decide, Or.inr ⟨"CodePointSets", by decide +kernel⟩⟩
theorem o_PW_3 : Cond.methodLink "CodePointSets$PatternWriter" 3 Lib.objectInit ∈ wWL := wIn 166 (by decide +kernel) (by decide +kernel)
theorem c_PW_9 : Cond.classLink "CodePointSets$PatternWriter" 9 "CodePointSets$CodeRow" ∈ wWL := wIn 167 (by decide +kernel) (by decide +kernel)
theorem n_PW_9 : wCN "CodePointSets$PatternWriter" 9 0 := ⟨("CodePointSets$CodeRow", wT_CR, 2), rfl, c_PW_9, wIn 25 (by decide +kernel) (by decide +kernel), wIn 2 (by decide +kernel) (by decide +kernel)⟩
theorem l_PW_11 : wCl "CodePointSets$PatternWriter" 11 M_CR_init := Or.inr ⟨"CodePointSets", by decide +kernel⟩
theorem f_PW_12 : wF "CodePointSets$PatternWriter" 12 4 0 := ⟨("CodePointSets$PatternWriter", wT_PW, 2), rfl, by decide, Or.inl (wIn 169 (by decide +kernel) (by decide +kernel))⟩
theorem f_PW_21 : wF "CodePointSets$PatternWriter" 21 4 1 := ⟨("CodePointSets$PatternWriter", wT_PW, 2), rfl, by decide, Or.inl (wIn 171 (by decide +kernel) (by decide +kernel))⟩
theorem l_PW_18 : wCl "CodePointSets$PatternWriter" 18 M_CR_clear := Or.inl (wIn 520 (by decide +kernel) (by decide +kernel))
theorem l_PW_25 : wCl "CodePointSets$PatternWriter" 25 M_PW_put := Or.inl (wIn 521 (by decide +kernel) (by decide +kernel))
theorem l_PW_68 : wCl "CodePointSets$PatternWriter" 68 M_CR_append := Or.inl (wIn 525 (by decide +kernel) (by decide +kernel))
theorem l_PW_39 : wCl "CodePointSets$PatternWriter" 39 M_PW_writeRange := Or.inl (wIn 526 (by decide +kernel) (by decide +kernel))
theorem l_PW_54 : wCl "CodePointSets$PatternWriter" 54 M_PW_writeCode := Or.inl (wIn 530 (by decide +kernel) (by decide +kernel))
theorem l_PW_61 : wCl "CodePointSets$PatternWriter" 61 M_PW_writeHex := Or.inl (wIn 534 (by decide +kernel) (by decide +kernel))
theorem l_PW_64 : wCl "CodePointSets$PatternWriter" 64 M_PW_isSign := Or.inl (wIn 538 (by decide +kernel) (by decide +kernel))
theorem l_PW_50 : wCl "CodePointSets$PatternWriter" 50 M_PW_writeString := Or.inl (wIn 541 (by decide +kernel) (by decide +kernel))
theorem l_PW_57 : wCl "CodePointSets$PatternWriter" 57 M_MS_codeOfKey := Or.inl (wIn 545 (by decide +kernel) (by decide +kernel))
theorem f_TR_46 : wF "CodePointSets$TokenRow" 46 0 1 := ⟨("CodePointSets$CodeRow", wT_CR, 2), rfl, by decide, Or.inr ⟨"CodePointSets", by decide +kernel⟩⟩
theorem o_TR_3 : Cond.methodLink "CodePointSets$TokenRow" 3 Lib.objectInit ∈ wWL := wIn 82 (by decide +kernel) (by decide +kernel)
theorem c_TR_9 : Cond.classLink "CodePointSets$TokenRow" 9 "CodePointSets$CodeRow" ∈ wWL := wIn 83 (by decide +kernel) (by decide +kernel)
theorem n_TR_9 : wCN "CodePointSets$TokenRow" 9 0 := ⟨("CodePointSets$CodeRow", wT_CR, 2), rfl, c_TR_9, wIn 25 (by decide +kernel) (by decide +kernel), wIn 2 (by decide +kernel) (by decide +kernel)⟩
theorem l_TR_11 : wCl "CodePointSets$TokenRow" 11 M_CR_init := Or.inr ⟨"CodePointSets", by decide +kernel⟩
theorem f_TR_12 : wF "CodePointSets$TokenRow" 12 5 0 := ⟨("CodePointSets$TokenRow", wT_TR, 6), rfl, by decide, Or.inl (wIn 85 (by decide +kernel) (by decide +kernel))⟩
theorem f_TR_18 : wF "CodePointSets$TokenRow" 18 5 1 := ⟨("CodePointSets$TokenRow", wT_TR, 6), rfl, by decide, Or.inl (wIn 86 (by decide +kernel) (by decide +kernel))⟩
theorem f_TR_22 : wF "CodePointSets$TokenRow" 22 5 2 := ⟨("CodePointSets$TokenRow", wT_TR, 6), rfl, by decide, Or.inl (wIn 87 (by decide +kernel) (by decide +kernel))⟩
theorem f_TR_25 : wF "CodePointSets$TokenRow" 25 5 3 := ⟨("CodePointSets$TokenRow", wT_TR, 6), rfl, by decide, Or.inl (wIn 88 (by decide +kernel) (by decide +kernel))⟩
theorem f_TR_28 : wF "CodePointSets$TokenRow" 28 5 4 := ⟨("CodePointSets$TokenRow", wT_TR, 6), rfl, by decide, Or.inl (wIn 89 (by decide +kernel) (by decide +kernel))⟩
theorem f_TR_40 : wF "CodePointSets$TokenRow" 40 5 5 := ⟨("CodePointSets$TokenRow", wT_TR, 6), rfl, by decide, Or.inl (wIn 91 (by decide +kernel) (by decide +kernel))⟩
theorem l_TR_36 : wCl "CodePointSets$TokenRow" 36 M_CR_become := Or.inl (wIn 240 (by decide +kernel) (by decide +kernel))
theorem l_TR_43 : wCl "CodePointSets$TokenRow" 43 M_CR_codeAt := Or.inl (wIn 247 (by decide +kernel) (by decide +kernel))
theorem l_TR_47 : wCl "CodePointSets$TokenRow" 47 M_TR_takeToken := Or.inl (wIn 248 (by decide +kernel) (by decide +kernel))
theorem l_TR_51 : wCl "CodePointSets$TokenRow" 51 M_TR_takeOpening := Or.inl (wIn 252 (by decide +kernel) (by decide +kernel))
theorem l_TR_54 : wCl "CodePointSets$TokenRow" 54 M_TR_add := Or.inl (wIn 256 (by decide +kernel) (by decide +kernel))
theorem l_TR_64 : wCl "CodePointSets$TokenRow" 64 M_TR_collectName := Or.inl (wIn 260 (by decide +kernel) (by decide +kernel))
theorem l_TR_91 : wCl "CodePointSets$TokenRow" 91 M_CR_clear := Or.inl (wIn 264 (by decide +kernel) (by decide +kernel))
theorem l_TR_77 : wCl "CodePointSets$TokenRow" 77 M_TR_isLetter := Or.inl (wIn 265 (by decide +kernel) (by decide +kernel))
theorem l_TR_94 : wCl "CodePointSets$TokenRow" 94 M_CR_append := Or.inl (wIn 268 (by decide +kernel) (by decide +kernel))
theorem l_TR_67 : wCl "CodePointSets$TokenRow" 67 M_TR_addProperty := Or.inl (wIn 269 (by decide +kernel) (by decide +kernel))
theorem l_TR_97 : wCl "CodePointSets$TokenRow" 97 M_NS_numberOf := Or.inl (wIn 273 (by decide +kernel) (by decide +kernel))
theorem l_TR_58 : wCl "CodePointSets$TokenRow" 58 M_TR_takeBracedName := Or.inl (wIn 340 (by decide +kernel) (by decide +kernel))
theorem l_TR_61 : wCl "CodePointSets$TokenRow" 61 M_TR_takeEscape := Or.inl (wIn 344 (by decide +kernel) (by decide +kernel))
theorem l_TR_71 : wCl "CodePointSets$TokenRow" 71 M_TR_takeFourDigits := Or.inl (wIn 348 (by decide +kernel) (by decide +kernel))
theorem l_TR_81 : wCl "CodePointSets$TokenRow" 81 M_TR_countHexDigits := Or.inl (wIn 352 (by decide +kernel) (by decide +kernel))
theorem l_TR_103 : wCl "CodePointSets$TokenRow" 103 M_TR_hexDigit := Or.inl (wIn 356 (by decide +kernel) (by decide +kernel))
theorem l_TR_85 : wCl "CodePointSets$TokenRow" 85 M_TR_hexValue := Or.inl (wIn 359 (by decide +kernel) (by decide +kernel))
theorem l_TR_74 : wCl "CodePointSets$TokenRow" 74 M_TR_takeBracedDigits := Or.inl (wIn 363 (by decide +kernel) (by decide +kernel))
theorem l_TR_88 : wCl "CodePointSets$TokenRow" 88 M_CP_isCodePoint := Or.inr ⟨"CodePointSets", by decide +kernel⟩
theorem l_TR_32 : wCl "CodePointSets$TokenRow" 32 M_TR_kindAt := Or.inl (wIn 384 (by decide +kernel) (by decide +kernel))
theorem f_PR_95 : wF "CodePointSets$PatternReader" 95 1 3 := ⟨("CodePointSets$MemberSet", wT_MS, 4), rfl, by decide, Or.inr ⟨"CodePointSets", by decide +kernel⟩⟩
theorem o_PR_3 : Cond.methodLink "CodePointSets$PatternReader" 3 Lib.objectInit ∈ wWL := wIn 76 (by decide +kernel) (by decide +kernel)
theorem c_PR_9 : Cond.classLink "CodePointSets$PatternReader" 9 "CodePointSets$TokenRow" ∈ wWL := wIn 77 (by decide +kernel) (by decide +kernel)
theorem n_PR_9 : wCN "CodePointSets$PatternReader" 9 5 := ⟨("CodePointSets$TokenRow", wT_TR, 6), rfl, c_PR_9, wIn 78 (by decide +kernel) (by decide +kernel), wIn 5 (by decide +kernel) (by decide +kernel)⟩
theorem l_PR_11 : wCl "CodePointSets$PatternReader" 11 M_TR_init := Or.inr ⟨"CodePointSets", by decide +kernel⟩
theorem f_PR_45 : wF "CodePointSets$PatternReader" 45 5 4 := ⟨("CodePointSets$TokenRow", wT_TR, 6), rfl, by decide, Or.inr ⟨"CodePointSets", by decide +kernel⟩⟩
theorem c_PR_18 : Cond.classLink "CodePointSets$PatternReader" 18 "CodePointSets$OpenBracket" ∈ wWL := wIn 105 (by decide +kernel) (by decide +kernel)
theorem n_PR_18 : wCN "CodePointSets$PatternReader" 18 2 := ⟨("CodePointSets$OpenBracket", wT_OB, 5), rfl, c_PR_18, wIn 109 (by decide +kernel) (by decide +kernel), wIn 6 (by decide +kernel) (by decide +kernel)⟩
theorem c_PR_24 : Cond.classLink "CodePointSets$PatternReader" 24 "CodePointSets$MemberSet" ∈ wWL := wIn 107 (by decide +kernel) (by decide +kernel)
theorem n_PR_24 : wCN "CodePointSets$PatternReader" 24 1 := ⟨("CodePointSets$MemberSet", wT_MS, 4), rfl, c_PR_24, wIn 44 (by decide +kernel) (by decide +kernel), wIn 3 (by decide +kernel) (by decide +kernel)⟩
theorem l_PR_26 : wCl "CodePointSets$PatternReader" 26 M_MS_init := Or.inr ⟨"CodePointSets", by decide +kernel⟩
theorem l_PR_37 : wCl "CodePointSets$PatternReader" 37 M_OB_init := Or.inr ⟨"CodePointSets", by decide +kernel⟩
theorem f_PR_94 : wF "CodePointSets$PatternReader" 94 2 0 := ⟨("CodePointSets$OpenBracket", wT_OB, 5), rfl, by decide, Or.inr ⟨"CodePointSets", by decide +kernel⟩⟩
theorem f_PR_90 : wF "CodePointSets$PatternReader" 90 2 1 := ⟨("CodePointSets$OpenBracket", wT_OB, 5), rfl, by decide, Or.inr ⟨"CodePointSets", by decide +kernel⟩⟩
theorem f_PR_131 : wF "CodePointSets$PatternReader" 131 2 2 := ⟨("CodePointSets$OpenBracket", wT_OB, 5), rfl, by decide, Or.inr ⟨"CodePointSets", by decide +kernel⟩⟩
theorem f_PR_134 : wF "CodePointSets$PatternReader" 134 2 3 := ⟨("CodePointSets$OpenBracket", wT_OB, 5), rfl, by decide, Or.inr ⟨"CodePointSets", by decide +kernel⟩⟩
theorem f_PR_137 : wF "CodePointSets$PatternReader" 137 2 4 := ⟨("CodePointSets$OpenBracket", wT_OB, 5), rfl, by decide, Or.inr ⟨"CodePointSets", by decide +kernel⟩⟩
theorem f_PR_12 : wF "CodePointSets$PatternReader" 12 3 0 := ⟨("CodePointSets$PatternReader", wT_PR, 7), rfl, by decide, Or.inl (wIn 137 (by decide +kernel) (by decide +kernel))⟩
theorem f_PR_20 : wF "CodePointSets$PatternReader" 20 3 1 := ⟨("CodePointSets$PatternReader", wT_PR, 7), rfl, by decide, Or.inl (wIn 139 (by decide +kernel) (by decide +kernel))⟩
theorem f_PR_38 : wF "CodePointSets$PatternReader" 38 3 2 := ⟨("CodePointSets$PatternReader", wT_PR, 7), rfl, by decide, Or.inl (wIn 140 (by decide +kernel) (by decide +kernel))⟩
theorem f_PR_42 : wF "CodePointSets$PatternReader" 42 3 3 := ⟨("CodePointSets$PatternReader", wT_PR, 7), rfl, by decide, Or.inl (wIn 141 (by decide +kernel) (by decide +kernel))⟩
theorem f_PR_27 : wF "CodePointSets$PatternReader" 27 3 4 := ⟨("CodePointSets$PatternReader", wT_PR, 7), rfl, by decide, Or.inl (wIn 142 (by decide +kernel) (by decide +kernel))⟩
theorem f_PR_31 : wF "CodePointSets$PatternReader" 31 3 5 := ⟨("CodePointSets$PatternReader", wT_PR, 7), rfl, by decide, Or.inl (wIn 143 (by decide +kernel) (by decide +kernel))⟩
theorem f_PR_34 : wF "CodePointSets$PatternReader" 34 3 6 := ⟨("CodePointSets$PatternReader", wT_PR, 7), rfl, by decide, Or.inl (wIn 144 (by decide +kernel) (by decide +kernel))⟩
theorem l_PR_48 : wCl "CodePointSets$PatternReader" 48 M_PR_readPart := Or.inl (wIn 372 (by decide +kernel) (by decide +kernel))
theorem l_PR_52 : wCl "CodePointSets$PatternReader" 52 M_TR_kindAt := Or.inl (wIn 376 (by decide +kernel) (by decide +kernel))
theorem l_PR_56 : wCl "CodePointSets$PatternReader" 56 M_TR_beginsSet := Or.inl (wIn 380 (by decide +kernel) (by decide +kernel))
theorem l_PR_60 : wCl "CodePointSets$PatternReader" 60 M_PR_openBracket := Or.inl (wIn 385 (by decide +kernel) (by decide +kernel))
theorem l_PR_82 : wCl "CodePointSets$PatternReader" 82 M_OB_begin := Or.inl (wIn 389 (by decide +kernel) (by decide +kernel))
theorem l_PR_64 : wCl "CodePointSets$PatternReader" 64 M_PR_endBracket := Or.inl (wIn 397 (by decide +kernel) (by decide +kernel))
theorem l_PR_86 : wCl "CodePointSets$PatternReader" 86 M_PR_innermost := Or.inl (wIn 401 (by decide +kernel) (by decide +kernel))
theorem l_PR_98 : wCl "CodePointSets$PatternReader" 98 M_MS_becomeOthers := Or.inl (wIn 405 (by decide +kernel) (by decide +kernel))
theorem l_PR_102 : wCl "CodePointSets$PatternReader" 102 M_PR_join := Or.inl (wIn 415 (by decide +kernel) (by decide +kernel))
theorem l_PR_147 : wCl "CodePointSets$PatternReader" 147 M_MS_becomeMerge := Or.inl (wIn 419 (by decide +kernel) (by decide +kernel))
theorem l_PR_67 : wCl "CodePointSets$PatternReader" 67 M_PR_readProperty := Or.inl (wIn 439 (by decide +kernel) (by decide +kernel))
theorem l_PR_106 : wCl "CodePointSets$PatternReader" 106 M_TR_valueAt := Or.inl (wIn 443 (by decide +kernel) (by decide +kernel))
theorem l_PR_109 : wCl "CodePointSets$PatternReader" 109 M_NS_edgesOf := Or.inl (wIn 447 (by decide +kernel) (by decide +kernel))
theorem l_PR_115 : wCl "CodePointSets$PatternReader" 115 M_MS_becomeEdges := Or.inl (wIn 470 (by decide +kernel) (by decide +kernel))
theorem l_PR_70 : wCl "CodePointSets$PatternReader" 70 M_PR_readString := Or.inl (wIn 474 (by decide +kernel) (by decide +kernel))
theorem l_PR_119 : wCl "CodePointSets$PatternReader" 119 M_PR_takeRange := Or.inl (wIn 478 (by decide +kernel) (by decide +kernel))
theorem l_PR_140 : wCl "CodePointSets$PatternReader" 140 M_MS_clear := Or.inl (wIn 482 (by decide +kernel) (by decide +kernel))
theorem l_PR_143 : wCl "CodePointSets$PatternReader" 143 M_MS_appendRange := Or.inl (wIn 483 (by decide +kernel) (by decide +kernel))
theorem l_PR_123 : wCl "CodePointSets$PatternReader" 123 M_MS_keyOf := Or.inl (wIn 487 (by decide +kernel) (by decide +kernel))
theorem l_PR_127 : wCl "CodePointSets$PatternReader" 127 M_MS_becomeString := Or.inl (wIn 490 (by decide +kernel) (by decide +kernel))
theorem l_PR_73 : wCl "CodePointSets$PatternReader" 73 M_PR_readChar := Or.inl (wIn 494 (by decide +kernel) (by decide +kernel))
theorem l_PR_76 : wCl "CodePointSets$PatternReader" 76 M_PR_readHyphen := Or.inl (wIn 498 (by decide +kernel) (by decide +kernel))
theorem l_PR_79 : wCl "CodePointSets$PatternReader" 79 M_PR_readSign := Or.inl (wIn 502 (by decide +kernel) (by decide +kernel))
theorem o_CP_1 : Cond.methodLink "CodePointSets" 1 Lib.objectInit ∈ wWL := wIn 21 (by decide +kernel) (by decide +kernel)
theorem c_CP_7 : Cond.classLink "CodePointSets" 7 "CodePointSets$CodeRow" ∈ wWL := wIn 24 (by decide +kernel) (by decide +kernel)
theorem n_CP_7 : wCN "CodePointSets" 7 0 := ⟨("CodePointSets$CodeRow", wT_CR, 2), rfl, c_CP_7, wIn 25 (by decide +kernel) (by decide +kernel), wIn 2 (by decide +kernel) (by decide +kernel)⟩
theorem l_CP_9 : wCl "CodePointSets" 9 M_CR_init := Or.inr ⟨"CodePointSets", by decide +kernel⟩
theorem f_CP_54 : wF "CodePointSets" 54 0 1 := ⟨("CodePointSets$CodeRow", wT_CR, 2), rfl, by decide, Or.inr ⟨"CodePointSets", by decide +kernel⟩⟩
theorem c_CP_16 : Cond.classLink "CodePointSets" 16 "CodePointSets$MemberSet" ∈ wWL := wIn 42 (by decide +kernel) (by decide +kernel)
theorem n_CP_16 : wCN "CodePointSets" 16 1 := ⟨("CodePointSets$MemberSet", wT_MS, 4), rfl, c_CP_16, wIn 44 (by decide +kernel) (by decide +kernel), wIn 3 (by decide +kernel) (by decide +kernel)⟩
theorem l_CP_22 : wCl "CodePointSets" 22 M_MS_init := Or.inr ⟨"CodePointSets", by decide +kernel⟩
theorem f_CP_130 : wF "CodePointSets" 130 1 0 := ⟨("CodePointSets$MemberSet", wT_MS, 4), rfl, by decide, Or.inr ⟨"CodePointSets", by decide +kernel⟩⟩
theorem f_CP_127 : wF "CodePointSets" 127 1 1 := ⟨("CodePointSets$MemberSet", wT_MS, 4), rfl, by decide, Or.inr ⟨"CodePointSets", by decide +kernel⟩⟩
theorem f_CP_104 : wF "CodePointSets" 104 1 3 := ⟨("CodePointSets$MemberSet", wT_MS, 4), rfl, by decide, Or.inr ⟨"CodePointSets", by decide +kernel⟩⟩
theorem c_CP_23 : Cond.classLink "CodePointSets" 23 "CodePointSets$PatternReader" ∈ wWL := wIn 71 (by decide +kernel) (by decide +kernel)
theorem n_CP_23 : wCN "CodePointSets" 23 3 := ⟨("CodePointSets$PatternReader", wT_PR, 7), rfl, c_CP_23, wIn 72 (by decide +kernel) (by decide +kernel), wIn 4 (by decide +kernel) (by decide +kernel)⟩
theorem l_CP_25 : wCl "CodePointSets" 25 M_PR_init := Or.inl (wIn 73 (by decide +kernel) (by decide +kernel))
theorem f_CP_66 : wF "CodePointSets" 66 3 0 := ⟨("CodePointSets$PatternReader", wT_PR, 7), rfl, by decide, Or.inr ⟨"CodePointSets", by decide +kernel⟩⟩
theorem f_CP_80 : wF "CodePointSets" 80 3 6 := ⟨("CodePointSets$PatternReader", wT_PR, 7), rfl, by decide, Or.inr ⟨"CodePointSets", by decide +kernel⟩⟩
theorem c_CP_30 : Cond.classLink "CodePointSets" 30 "CodePointSets$PatternWriter" ∈ wWL := wIn 161 (by decide +kernel) (by decide +kernel)
theorem n_CP_30 : wCN "CodePointSets" 30 4 := ⟨("CodePointSets$PatternWriter", wT_PW, 2), rfl, c_CP_30, wIn 162 (by decide +kernel) (by decide +kernel), wIn 7 (by decide +kernel) (by decide +kernel)⟩
theorem l_CP_32 : wCl "CodePointSets" 32 M_PW_init := Or.inr ⟨"CodePointSets", by decide +kernel⟩
theorem f_CP_91 : wF "CodePointSets" 91 4 0 := ⟨("CodePointSets$PatternWriter", wT_PW, 2), rfl, by decide, Or.inr ⟨"CodePointSets", by decide +kernel⟩⟩
theorem f_CP_10 : wF "CodePointSets" 10 6 0 := ⟨("CodePointSets", wT_CP, 6), rfl, by decide, Or.inl (wIn 177 (by decide +kernel) (by decide +kernel))⟩
theorem f_CP_18 : wF "CodePointSets" 18 6 1 := ⟨("CodePointSets", wT_CP, 6), rfl, by decide, Or.inl (wIn 178 (by decide +kernel) (by decide +kernel))⟩
theorem f_CP_26 : wF "CodePointSets" 26 6 2 := ⟨("CodePointSets", wT_CP, 6), rfl, by decide, Or.inl (wIn 179 (by decide +kernel) (by decide +kernel))⟩
theorem f_CP_33 : wF "CodePointSets" 33 6 3 := ⟨("CodePointSets", wT_CP, 6), rfl, by decide, Or.inl (wIn 180 (by decide +kernel) (by decide +kernel))⟩
theorem f_CP_37 : wF "CodePointSets" 37 6 4 := ⟨("CodePointSets", wT_CP, 6), rfl, by decide, Or.inl (wIn 181 (by decide +kernel) (by decide +kernel))⟩
theorem f_CP_41 : wF "CodePointSets" 41 6 5 := ⟨("CodePointSets", wT_CP, 6), rfl, by decide, Or.inl (wIn 182 (by decide +kernel) (by decide +kernel))⟩
theorem l_CP_44 : wCl "CodePointSets" 44 M_CP_isCodePoint := Or.inl (wIn 200 (by decide +kernel) (by decide +kernel))
theorem k_CP_152 : Cond.constant "CodePointSets" 152 1114112 ∈ wWL := wIn 203 (by decide +kernel) (by decide +kernel)
theorem l_CP_48 : wCl "CodePointSets" 48 M_CR_append := Or.inl (wIn 204 (by decide +kernel) (by decide +kernel))
theorem l_CP_51 : wCl "CodePointSets" 51 M_CR_clear := Or.inl (wIn 212 (by decide +kernel) (by decide +kernel))
theorem l_CP_58 : wCl "CodePointSets" 58 M_CR_codeAt := Or.inl (wIn 224 (by decide +kernel) (by decide +kernel))
theorem l_CP_62 : wCl "CodePointSets" 62 M_CP_registerAt := Or.inl (wIn 232 (by decide +kernel) (by decide +kernel))
theorem l_CP_70 : wCl "CodePointSets" 70 M_TR_cutText := Or.inl (wIn 236 (by decide +kernel) (by decide +kernel))
theorem l_CP_76 : wCl "CodePointSets" 76 M_PR_readPattern := Or.inl (wIn 368 (by decide +kernel) (by decide +kernel))
theorem l_CP_83 : wCl "CodePointSets" 83 M_MS_become := Or.inl (wIn 506 (by decide +kernel) (by decide +kernel))
theorem l_CP_87 : wCl "CodePointSets" 87 M_PW_writePattern := Or.inl (wIn 516 (by decide +kernel) (by decide +kernel))
theorem l_CP_94 : wCl "CodePointSets" 94 M_CR_become := Or.inl (wIn 549 (by decide +kernel) (by decide +kernel))
theorem l_CP_97 : wCl "CodePointSets" 97 M_MS_becomeMerge := Or.inl (wIn 554 (by decide +kernel) (by decide +kernel))
theorem l_CP_101 : wCl "CodePointSets" 101 M_CP_keepSpare := Or.inl (wIn 555 (by decide +kernel) (by decide +kernel))
theorem l_CP_107 : wCl "CodePointSets" 107 M_MS_becomeOthers := Or.inl (wIn 563 (by decide +kernel) (by decide +kernel))
theorem l_CP_110 : wCl "CodePointSets" 110 M_CA_collectAlikes := Or.inl (wIn 568 (by decide +kernel) (by decide +kernel))
theorem l_CP_116 : wCl "CodePointSets" 116 M_MS_codeCount := Or.inl (wIn 589 (by decide +kernel) (by decide +kernel))
theorem l_CP_120 : wCl "CodePointSets" 120 M_MS_holdsCode := Or.inl (wIn 597 (by decide +kernel) (by decide +kernel))
theorem l_CP_123 : wCl "CodePointSets" 123 M_CP_textIsMember := Or.inl (wIn 602 (by decide +kernel) (by decide +kernel))
theorem l_CP_144 : wCl "CodePointSets" 144 M_MS_keyOf := Or.inl (wIn 606 (by decide +kernel) (by decide +kernel))
theorem l_CP_148 : wCl "CodePointSets" 148 M_MS_holdsString := Or.inl (wIn 607 (by decide +kernel) (by decide +kernel))
theorem l_CP_134 : wCl "CodePointSets" 134 M_MS_codeOfRank := Or.inl (wIn 631 (by decide +kernel) (by decide +kernel))
theorem l_CP_137 : wCl "CodePointSets" 137 M_CP_endOfMembers := Or.inl (wIn 639 (by decide +kernel) (by decide +kernel))
theorem l_CP_141 : wCl "CodePointSets" 141 M_CP_beginOfMember := Or.inl (wIn 643 (by decide +kernel) (by decide +kernel))
theorem l_ST_335 : wCl "java/lang/String" 335 M_ST_coder := Or.inl (wIn 296 (by decide +kernel) (by decide +kernel))
theorem l_ST_492 : wCl "java/lang/String" 492 M_ST_isLatin1 := Or.inl (wIn 306 (by decide +kernel) (by decide +kernel))
theorem l_ST_495 : wCl "java/lang/String" 495 M_SL_charAt := Or.inl (wIn 310 (by decide +kernel) (by decide +kernel))
theorem l_SL_9 : wCl "java/lang/StringLatin1" 9 M_ST_checkIndex := Or.inl (wIn 313 (by decide +kernel) (by decide +kernel))
end
section
/-! decode rows of CA NS OB PW: written by wip/gen/mknames.py -/
theorem d_CA_collectAlikes_0 : decode M_CA_collectAlikes.2.1 0 = .ok (.aload_n 1, 1) := by decide +kernel
theorem d_CA_collectAlikes_1 : decode M_CA_collectAlikes.2.1 1 = .ok (.invokevirtual 7, 3) := by decide +kernel
theorem d_CA_collectAlikes_4 : decode M_CA_collectAlikes.2.1 4 = .ok (.iconst 0, 1) := by decide +kernel
theorem d_CA_collectAlikes_5 : decode M_CA_collectAlikes.2.1 5 = .ok (.istore_n 2, 1) := by decide +kernel
theorem d_CA_collectAlikes_6 : decode M_CA_collectAlikes.2.1 6 = .ok (.iload_n 2, 1) := by decide +kernel
theorem d_CA_collectAlikes_7 : decode M_CA_collectAlikes.2.1 7 = .ok (.iconst 1, 1) := by decide +kernel
theorem d_CA_collectAlikes_8 : decode M_CA_collectAlikes.2.1 8 = .ok (.iadd, 1) := by decide +kernel
theorem d_CA_collectAlikes_9 : decode M_CA_collectAlikes.2.1 9 = .ok (.getstatic 12, 3) := by decide +kernel
theorem d_CA_collectAlikes_12 : decode M_CA_collectAlikes.2.1 12 = .ok (.arraylength, 1) := by decide +kernel
theorem d_CA_collectAlikes_13 : decode M_CA_collectAlikes.2.1 13 = .ok (.if_icmp .ge 46, 3) := by decide +kernel
theorem d_CA_collectAlikes_16 : decode M_CA_collectAlikes.2.1 16 = .ok (.getstatic 12, 3) := by decide +kernel
theorem d_CA_collectAlikes_19 : decode M_CA_collectAlikes.2.1 19 = .ok (.iload_n 2, 1) := by decide +kernel
theorem d_CA_collectAlikes_20 : decode M_CA_collectAlikes.2.1 20 = .ok (.iaload, 1) := by decide +kernel
theorem d_CA_collectAlikes_21 : decode M_CA_collectAlikes.2.1 21 = .ok (.istore_n 3, 1) := by decide +kernel
theorem d_CA_collectAlikes_22 : decode M_CA_collectAlikes.2.1 22 = .ok (.iload_n 3, 1) := by decide +kernel
theorem d_CA_collectAlikes_23 : decode M_CA_collectAlikes.2.1 23 = .ok (.getstatic 12, 3) := by decide +kernel
theorem d_CA_collectAlikes_26 : decode M_CA_collectAlikes.2.1 26 = .ok (.iload_n 2, 1) := by decide +kernel
theorem d_CA_collectAlikes_27 : decode M_CA_collectAlikes.2.1 27 = .ok (.iconst 1, 1) := by decide +kernel
theorem d_CA_collectAlikes_28 : decode M_CA_collectAlikes.2.1 28 = .ok (.iadd, 1) := by decide +kernel
theorem d_CA_collectAlikes_29 : decode M_CA_collectAlikes.2.1 29 = .ok (.iaload, 1) := by decide +kernel
theorem d_CA_collectAlikes_30 : decode M_CA_collectAlikes.2.1 30 = .ok (.if_icmp .ge 23, 3) := by decide +kernel
theorem d_CA_collectAlikes_33 : decode M_CA_collectAlikes.2.1 33 = .ok (.aload_n 0, 1) := by decide +kernel
theorem d_CA_collectAlikes_34 : decode M_CA_collectAlikes.2.1 34 = .ok (.iload_n 3, 1) := by decide +kernel
theorem d_CA_collectAlikes_35 : decode M_CA_collectAlikes.2.1 35 = .ok (.invokestatic 18, 3) := by decide +kernel
theorem d_CA_collectAlikes_38 : decode M_CA_collectAlikes.2.1 38 = .ok (.ifCond .eq 9, 3) := by decide +kernel
theorem d_CA_collectAlikes_41 : decode M_CA_collectAlikes.2.1 41 = .ok (.aload_n 1, 1) := by decide +kernel
theorem d_CA_collectAlikes_42 : decode M_CA_collectAlikes.2.1 42 = .ok (.iload_n 3, 1) := by decide +kernel
theorem d_CA_collectAlikes_43 : decode M_CA_collectAlikes.2.1 43 = .ok (.iload_n 3, 1) := by decide +kernel
theorem d_CA_collectAlikes_44 : decode M_CA_collectAlikes.2.1 44 = .ok (.invokevirtual 22, 3) := by decide +kernel
theorem d_CA_collectAlikes_47 : decode M_CA_collectAlikes.2.1 47 = .ok (.iinc 3 1, 3) := by decide +kernel
theorem d_CA_collectAlikes_50 : decode M_CA_collectAlikes.2.1 50 = .ok (.goto (-28), 3) := by decide +kernel
theorem d_CA_collectAlikes_53 : decode M_CA_collectAlikes.2.1 53 = .ok (.iinc 2 2, 3) := by decide +kernel
theorem d_CA_collectAlikes_56 : decode M_CA_collectAlikes.2.1 56 = .ok (.goto (-50), 3) := by decide +kernel
theorem d_CA_collectAlikes_59 : decode M_CA_collectAlikes.2.1 59 = .ok (.return_, 1) := by decide +kernel
theorem d_CA_isAlikeToMember_0 : decode M_CA_isAlikeToMember.2.1 0 = .ok (.iload_n 1, 1) := by decide +kernel
theorem d_CA_isAlikeToMember_1 : decode M_CA_isAlikeToMember.2.1 1 = .ok (.invokestatic 26, 3) := by decide +kernel
theorem d_CA_isAlikeToMember_4 : decode M_CA_isAlikeToMember.2.1 4 = .ok (.ifCond .eq 14, 3) := by decide +kernel
theorem d_CA_isAlikeToMember_7 : decode M_CA_isAlikeToMember.2.1 7 = .ok (.aload_n 0, 1) := by decide +kernel
theorem d_CA_isAlikeToMember_8 : decode M_CA_isAlikeToMember.2.1 8 = .ok (.iload_n 1, 1) := by decide +kernel
theorem d_CA_isAlikeToMember_9 : decode M_CA_isAlikeToMember.2.1 9 = .ok (.bipush 32, 2) := by decide +kernel
theorem d_CA_isAlikeToMember_11 : decode M_CA_isAlikeToMember.2.1 11 = .ok (.iadd, 1) := by decide +kernel
theorem d_CA_isAlikeToMember_12 : decode M_CA_isAlikeToMember.2.1 12 = .ok (.invokevirtual 30, 3) := by decide +kernel
theorem d_CA_isAlikeToMember_15 : decode M_CA_isAlikeToMember.2.1 15 = .ok (.ifCond .ne 24, 3) := by decide +kernel
theorem d_CA_isAlikeToMember_18 : decode M_CA_isAlikeToMember.2.1 18 = .ok (.iload_n 1, 1) := by decide +kernel
theorem d_CA_isAlikeToMember_19 : decode M_CA_isAlikeToMember.2.1 19 = .ok (.bipush 32, 2) := by decide +kernel
theorem d_CA_isAlikeToMember_21 : decode M_CA_isAlikeToMember.2.1 21 = .ok (.isub, 1) := by decide +kernel
theorem d_CA_isAlikeToMember_22 : decode M_CA_isAlikeToMember.2.1 22 = .ok (.invokestatic 26, 3) := by decide +kernel
theorem d_CA_isAlikeToMember_25 : decode M_CA_isAlikeToMember.2.1 25 = .ok (.ifCond .eq 16, 3) := by decide +kernel
theorem d_CA_isAlikeToMember_28 : decode M_CA_isAlikeToMember.2.1 28 = .ok (.aload_n 0, 1) := by decide +kernel
theorem d_CA_isAlikeToMember_29 : decode M_CA_isAlikeToMember.2.1 29 = .ok (.iload_n 1, 1) := by decide +kernel
theorem d_CA_isAlikeToMember_30 : decode M_CA_isAlikeToMember.2.1 30 = .ok (.bipush 32, 2) := by decide +kernel
theorem d_CA_isAlikeToMember_32 : decode M_CA_isAlikeToMember.2.1 32 = .ok (.isub, 1) := by decide +kernel
theorem d_CA_isAlikeToMember_33 : decode M_CA_isAlikeToMember.2.1 33 = .ok (.invokevirtual 30, 3) := by decide +kernel
theorem d_CA_isAlikeToMember_36 : decode M_CA_isAlikeToMember.2.1 36 = .ok (.ifCond .eq 5, 3) := by decide +kernel
theorem d_CA_isAlikeToMember_39 : decode M_CA_isAlikeToMember.2.1 39 = .ok (.iconst 1, 1) := by decide +kernel
theorem d_CA_isAlikeToMember_40 : decode M_CA_isAlikeToMember.2.1 40 = .ok (.ireturn, 1) := by decide +kernel
theorem d_CA_isAlikeToMember_41 : decode M_CA_isAlikeToMember.2.1 41 = .ok (.iconst 0, 1) := by decide +kernel
theorem d_CA_isAlikeToMember_42 : decode M_CA_isAlikeToMember.2.1 42 = .ok (.istore_n 2, 1) := by decide +kernel
theorem d_CA_isAlikeToMember_43 : decode M_CA_isAlikeToMember.2.1 43 = .ok (.iload_n 2, 1) := by decide +kernel
theorem d_CA_isAlikeToMember_44 : decode M_CA_isAlikeToMember.2.1 44 = .ok (.iconst 2, 1) := by decide +kernel
theorem d_CA_isAlikeToMember_45 : decode M_CA_isAlikeToMember.2.1 45 = .ok (.iadd, 1) := by decide +kernel
theorem d_CA_isAlikeToMember_46 : decode M_CA_isAlikeToMember.2.1 46 = .ok (.getstatic 33, 3) := by decide +kernel
theorem d_CA_isAlikeToMember_49 : decode M_CA_isAlikeToMember.2.1 49 = .ok (.arraylength, 1) := by decide +kernel
theorem d_CA_isAlikeToMember_50 : decode M_CA_isAlikeToMember.2.1 50 = .ok (.if_icmp .ge 82, 3) := by decide +kernel
theorem d_CA_isAlikeToMember_53 : decode M_CA_isAlikeToMember.2.1 53 = .ok (.getstatic 33, 3) := by decide +kernel
theorem d_CA_isAlikeToMember_56 : decode M_CA_isAlikeToMember.2.1 56 = .ok (.iload_n 2, 1) := by decide +kernel
theorem d_CA_isAlikeToMember_57 : decode M_CA_isAlikeToMember.2.1 57 = .ok (.iaload, 1) := by decide +kernel
theorem d_CA_isAlikeToMember_58 : decode M_CA_isAlikeToMember.2.1 58 = .ok (.istore_n 3, 1) := by decide +kernel
theorem d_CA_isAlikeToMember_59 : decode M_CA_isAlikeToMember.2.1 59 = .ok (.getstatic 33, 3) := by decide +kernel
theorem d_CA_isAlikeToMember_62 : decode M_CA_isAlikeToMember.2.1 62 = .ok (.iload_n 2, 1) := by decide +kernel
theorem d_CA_isAlikeToMember_63 : decode M_CA_isAlikeToMember.2.1 63 = .ok (.iconst 1, 1) := by decide +kernel
theorem d_CA_isAlikeToMember_64 : decode M_CA_isAlikeToMember.2.1 64 = .ok (.iadd, 1) := by decide +kernel
theorem d_CA_isAlikeToMember_65 : decode M_CA_isAlikeToMember.2.1 65 = .ok (.iaload, 1) := by decide +kernel
theorem d_CA_isAlikeToMember_66 : decode M_CA_isAlikeToMember.2.1 66 = .ok (.istore 4, 2) := by decide +kernel
theorem d_CA_isAlikeToMember_68 : decode M_CA_isAlikeToMember.2.1 68 = .ok (.getstatic 33, 3) := by decide +kernel
theorem d_CA_isAlikeToMember_71 : decode M_CA_isAlikeToMember.2.1 71 = .ok (.iload_n 2, 1) := by decide +kernel
theorem d_CA_isAlikeToMember_72 : decode M_CA_isAlikeToMember.2.1 72 = .ok (.iconst 2, 1) := by decide +kernel
theorem d_CA_isAlikeToMember_73 : decode M_CA_isAlikeToMember.2.1 73 = .ok (.iadd, 1) := by decide +kernel
theorem d_CA_isAlikeToMember_74 : decode M_CA_isAlikeToMember.2.1 74 = .ok (.iaload, 1) := by decide +kernel
theorem d_CA_isAlikeToMember_75 : decode M_CA_isAlikeToMember.2.1 75 = .ok (.istore 5, 2) := by decide +kernel
theorem d_CA_isAlikeToMember_77 : decode M_CA_isAlikeToMember.2.1 77 = .ok (.iload_n 1, 1) := by decide +kernel
theorem d_CA_isAlikeToMember_78 : decode M_CA_isAlikeToMember.2.1 78 = .ok (.iload_n 3, 1) := by decide +kernel
theorem d_CA_isAlikeToMember_79 : decode M_CA_isAlikeToMember.2.1 79 = .ok (.if_icmp .eq 15, 3) := by decide +kernel
theorem d_CA_isAlikeToMember_82 : decode M_CA_isAlikeToMember.2.1 82 = .ok (.iload_n 1, 1) := by decide +kernel
theorem d_CA_isAlikeToMember_83 : decode M_CA_isAlikeToMember.2.1 83 = .ok (.iload 4, 2) := by decide +kernel
theorem d_CA_isAlikeToMember_85 : decode M_CA_isAlikeToMember.2.1 85 = .ok (.if_icmp .eq 9, 3) := by decide +kernel
theorem d_CA_isAlikeToMember_88 : decode M_CA_isAlikeToMember.2.1 88 = .ok (.iload_n 1, 1) := by decide +kernel
theorem d_CA_isAlikeToMember_89 : decode M_CA_isAlikeToMember.2.1 89 = .ok (.iload 5, 2) := by decide +kernel
theorem d_CA_isAlikeToMember_91 : decode M_CA_isAlikeToMember.2.1 91 = .ok (.if_icmp .ne 35, 3) := by decide +kernel
theorem d_CA_isAlikeToMember_94 : decode M_CA_isAlikeToMember.2.1 94 = .ok (.aload_n 0, 1) := by decide +kernel
theorem d_CA_isAlikeToMember_95 : decode M_CA_isAlikeToMember.2.1 95 = .ok (.iload_n 3, 1) := by decide +kernel
theorem d_CA_isAlikeToMember_96 : decode M_CA_isAlikeToMember.2.1 96 = .ok (.invokevirtual 30, 3) := by decide +kernel
theorem d_CA_isAlikeToMember_99 : decode M_CA_isAlikeToMember.2.1 99 = .ok (.ifCond .ne 21, 3) := by decide +kernel
theorem d_CA_isAlikeToMember_102 : decode M_CA_isAlikeToMember.2.1 102 = .ok (.aload_n 0, 1) := by decide +kernel
theorem d_CA_isAlikeToMember_103 : decode M_CA_isAlikeToMember.2.1 103 = .ok (.iload 4, 2) := by decide +kernel
theorem d_CA_isAlikeToMember_105 : decode M_CA_isAlikeToMember.2.1 105 = .ok (.invokevirtual 30, 3) := by decide +kernel
theorem d_CA_isAlikeToMember_108 : decode M_CA_isAlikeToMember.2.1 108 = .ok (.ifCond .ne 12, 3) := by decide +kernel
theorem d_CA_isAlikeToMember_111 : decode M_CA_isAlikeToMember.2.1 111 = .ok (.aload_n 0, 1) := by decide +kernel
theorem d_CA_isAlikeToMember_112 : decode M_CA_isAlikeToMember.2.1 112 = .ok (.iload 5, 2) := by decide +kernel
theorem d_CA_isAlikeToMember_114 : decode M_CA_isAlikeToMember.2.1 114 = .ok (.invokevirtual 30, 3) := by decide +kernel
theorem d_CA_isAlikeToMember_117 : decode M_CA_isAlikeToMember.2.1 117 = .ok (.ifCond .eq 7, 3) := by decide +kernel
theorem d_CA_isAlikeToMember_120 : decode M_CA_isAlikeToMember.2.1 120 = .ok (.iconst 1, 1) := by decide +kernel
theorem d_CA_isAlikeToMember_121 : decode M_CA_isAlikeToMember.2.1 121 = .ok (.goto 4, 3) := by decide +kernel
theorem d_CA_isAlikeToMember_124 : decode M_CA_isAlikeToMember.2.1 124 = .ok (.iconst 0, 1) := by decide +kernel
theorem d_CA_isAlikeToMember_125 : decode M_CA_isAlikeToMember.2.1 125 = .ok (.ireturn, 1) := by decide +kernel
theorem d_CA_isAlikeToMember_126 : decode M_CA_isAlikeToMember.2.1 126 = .ok (.iinc 2 3, 3) := by decide +kernel
theorem d_CA_isAlikeToMember_129 : decode M_CA_isAlikeToMember.2.1 129 = .ok (.goto (-86), 3) := by decide +kernel
theorem d_CA_isAlikeToMember_132 : decode M_CA_isAlikeToMember.2.1 132 = .ok (.iconst 0, 1) := by decide +kernel
theorem d_CA_isAlikeToMember_133 : decode M_CA_isAlikeToMember.2.1 133 = .ok (.ireturn, 1) := by decide +kernel
theorem d_CA_isLarge_0 : decode M_CA_isLarge.2.1 0 = .ok (.iconst 0, 1) := by decide +kernel
theorem d_CA_isLarge_1 : decode M_CA_isLarge.2.1 1 = .ok (.istore_n 1, 1) := by decide +kernel
theorem d_CA_isLarge_2 : decode M_CA_isLarge.2.1 2 = .ok (.iload_n 1, 1) := by decide +kernel
theorem d_CA_isLarge_3 : decode M_CA_isLarge.2.1 3 = .ok (.iconst 1, 1) := by decide +kernel
theorem d_CA_isLarge_4 : decode M_CA_isLarge.2.1 4 = .ok (.iadd, 1) := by decide +kernel
theorem d_CA_isLarge_5 : decode M_CA_isLarge.2.1 5 = .ok (.getstatic 36, 3) := by decide +kernel
theorem d_CA_isLarge_8 : decode M_CA_isLarge.2.1 8 = .ok (.arraylength, 1) := by decide +kernel
theorem d_CA_isLarge_9 : decode M_CA_isLarge.2.1 9 = .ok (.if_icmp .ge 31, 3) := by decide +kernel
theorem d_CA_isLarge_12 : decode M_CA_isLarge.2.1 12 = .ok (.iload_n 0, 1) := by decide +kernel
theorem d_CA_isLarge_13 : decode M_CA_isLarge.2.1 13 = .ok (.getstatic 36, 3) := by decide +kernel
theorem d_CA_isLarge_16 : decode M_CA_isLarge.2.1 16 = .ok (.iload_n 1, 1) := by decide +kernel
theorem d_CA_isLarge_17 : decode M_CA_isLarge.2.1 17 = .ok (.iaload, 1) := by decide +kernel
theorem d_CA_isLarge_18 : decode M_CA_isLarge.2.1 18 = .ok (.if_icmp .lt 16, 3) := by decide +kernel
theorem d_CA_isLarge_21 : decode M_CA_isLarge.2.1 21 = .ok (.iload_n 0, 1) := by decide +kernel
theorem d_CA_isLarge_22 : decode M_CA_isLarge.2.1 22 = .ok (.getstatic 36, 3) := by decide +kernel
theorem d_CA_isLarge_25 : decode M_CA_isLarge.2.1 25 = .ok (.iload_n 1, 1) := by decide +kernel
theorem d_CA_isLarge_26 : decode M_CA_isLarge.2.1 26 = .ok (.iconst 1, 1) := by decide +kernel
theorem d_CA_isLarge_27 : decode M_CA_isLarge.2.1 27 = .ok (.iadd, 1) := by decide +kernel
theorem d_CA_isLarge_28 : decode M_CA_isLarge.2.1 28 = .ok (.iaload, 1) := by decide +kernel
theorem d_CA_isLarge_29 : decode M_CA_isLarge.2.1 29 = .ok (.if_icmp .ge 5, 3) := by decide +kernel
theorem d_CA_isLarge_32 : decode M_CA_isLarge.2.1 32 = .ok (.iconst 1, 1) := by decide +kernel
theorem d_CA_isLarge_33 : decode M_CA_isLarge.2.1 33 = .ok (.ireturn, 1) := by decide +kernel
theorem d_CA_isLarge_34 : decode M_CA_isLarge.2.1 34 = .ok (.iinc 1 2, 3) := by decide +kernel
theorem d_CA_isLarge_37 : decode M_CA_isLarge.2.1 37 = .ok (.goto (-35), 3) := by decide +kernel
theorem d_CA_isLarge_40 : decode M_CA_isLarge.2.1 40 = .ok (.iconst 0, 1) := by decide +kernel
theorem d_CA_isLarge_41 : decode M_CA_isLarge.2.1 41 = .ok (.ireturn, 1) := by decide +kernel
theorem d_NS_numberOf_0 : decode M_NS_numberOf.2.1 0 = .ok (.iconst 0, 1) := by decide +kernel
theorem d_NS_numberOf_1 : decode M_NS_numberOf.2.1 1 = .ok (.istore_n 1, 1) := by decide +kernel
theorem d_NS_numberOf_2 : decode M_NS_numberOf.2.1 2 = .ok (.iload_n 1, 1) := by decide +kernel
theorem d_NS_numberOf_3 : decode M_NS_numberOf.2.1 3 = .ok (.bipush 10, 2) := by decide +kernel
theorem d_NS_numberOf_5 : decode M_NS_numberOf.2.1 5 = .ok (.if_icmp .ge 22, 3) := by decide +kernel
theorem d_NS_numberOf_8 : decode M_NS_numberOf.2.1 8 = .ok (.aload_n 0, 1) := by decide +kernel
theorem d_NS_numberOf_9 : decode M_NS_numberOf.2.1 9 = .ok (.iload_n 1, 1) := by decide +kernel
theorem d_NS_numberOf_10 : decode M_NS_numberOf.2.1 10 = .ok (.invokestatic 11, 3) := by decide +kernel
theorem d_NS_numberOf_13 : decode M_NS_numberOf.2.1 13 = .ok (.invokestatic 15, 3) := by decide +kernel
theorem d_NS_numberOf_16 : decode M_NS_numberOf.2.1 16 = .ok (.ifCond .eq 5, 3) := by decide +kernel
theorem d_NS_numberOf_19 : decode M_NS_numberOf.2.1 19 = .ok (.iload_n 1, 1) := by decide +kernel
theorem d_NS_numberOf_20 : decode M_NS_numberOf.2.1 20 = .ok (.ireturn, 1) := by decide +kernel
theorem d_NS_numberOf_21 : decode M_NS_numberOf.2.1 21 = .ok (.iinc 1 1, 3) := by decide +kernel
theorem d_NS_numberOf_24 : decode M_NS_numberOf.2.1 24 = .ok (.goto (-22), 3) := by decide +kernel
theorem d_NS_numberOf_27 : decode M_NS_numberOf.2.1 27 = .ok (.iconst (-1), 1) := by decide +kernel
theorem d_NS_numberOf_28 : decode M_NS_numberOf.2.1 28 = .ok (.ireturn, 1) := by decide +kernel
theorem d_NS_isSame_0 : decode M_NS_isSame.2.1 0 = .ok (.aload_n 0, 1) := by decide +kernel
theorem d_NS_isSame_1 : decode M_NS_isSame.2.1 1 = .ok (.getfield 19, 3) := by decide +kernel
theorem d_NS_isSame_4 : decode M_NS_isSame.2.1 4 = .ok (.aload_n 1, 1) := by decide +kernel
theorem d_NS_isSame_5 : decode M_NS_isSame.2.1 5 = .ok (.invokevirtual 25, 3) := by decide +kernel
theorem d_NS_isSame_8 : decode M_NS_isSame.2.1 8 = .ok (.if_icmp .eq 5, 3) := by decide +kernel
theorem d_NS_isSame_11 : decode M_NS_isSame.2.1 11 = .ok (.iconst 0, 1) := by decide +kernel
theorem d_NS_isSame_12 : decode M_NS_isSame.2.1 12 = .ok (.ireturn, 1) := by decide +kernel
theorem d_NS_isSame_13 : decode M_NS_isSame.2.1 13 = .ok (.iconst 0, 1) := by decide +kernel
theorem d_NS_isSame_14 : decode M_NS_isSame.2.1 14 = .ok (.istore_n 2, 1) := by decide +kernel
theorem d_NS_isSame_15 : decode M_NS_isSame.2.1 15 = .ok (.iload_n 2, 1) := by decide +kernel
theorem d_NS_isSame_16 : decode M_NS_isSame.2.1 16 = .ok (.aload_n 0, 1) := by decide +kernel
theorem d_NS_isSame_17 : decode M_NS_isSame.2.1 17 = .ok (.getfield 19, 3) := by decide +kernel
theorem d_NS_isSame_20 : decode M_NS_isSame.2.1 20 = .ok (.if_icmp .ge 25, 3) := by decide +kernel
theorem d_NS_isSame_23 : decode M_NS_isSame.2.1 23 = .ok (.aload_n 0, 1) := by decide +kernel
theorem d_NS_isSame_24 : decode M_NS_isSame.2.1 24 = .ok (.getfield 31, 3) := by decide +kernel
theorem d_NS_isSame_27 : decode M_NS_isSame.2.1 27 = .ok (.iload_n 2, 1) := by decide +kernel
theorem d_NS_isSame_28 : decode M_NS_isSame.2.1 28 = .ok (.iaload, 1) := by decide +kernel
theorem d_NS_isSame_29 : decode M_NS_isSame.2.1 29 = .ok (.aload_n 1, 1) := by decide +kernel
theorem d_NS_isSame_30 : decode M_NS_isSame.2.1 30 = .ok (.iload_n 2, 1) := by decide +kernel
theorem d_NS_isSame_31 : decode M_NS_isSame.2.1 31 = .ok (.invokevirtual 35, 3) := by decide +kernel
theorem d_NS_isSame_34 : decode M_NS_isSame.2.1 34 = .ok (.if_icmp .eq 5, 3) := by decide +kernel
theorem d_NS_isSame_37 : decode M_NS_isSame.2.1 37 = .ok (.iconst 0, 1) := by decide +kernel
theorem d_NS_isSame_38 : decode M_NS_isSame.2.1 38 = .ok (.ireturn, 1) := by decide +kernel
theorem d_NS_isSame_39 : decode M_NS_isSame.2.1 39 = .ok (.iinc 2 1, 3) := by decide +kernel
theorem d_NS_isSame_42 : decode M_NS_isSame.2.1 42 = .ok (.goto (-27), 3) := by decide +kernel
theorem d_NS_isSame_45 : decode M_NS_isSame.2.1 45 = .ok (.iconst 1, 1) := by decide +kernel
theorem d_NS_isSame_46 : decode M_NS_isSame.2.1 46 = .ok (.ireturn, 1) := by decide +kernel
theorem d_NS_nameOf_0 : decode M_NS_nameOf.2.1 0 = .ok (.iload_n 0, 1) := by decide +kernel
theorem d_NS_nameOf_1 : decode M_NS_nameOf.2.1 1 = .ok (.tableswitch 78 0 8 #[51, 54, 57, 60, 63, 66, 69, 72, 75], 51) := by decide +kernel
theorem d_NS_nameOf_52 : decode M_NS_nameOf.2.1 52 = .ok (.ldc 39, 2) := by decide +kernel
theorem d_NS_nameOf_54 : decode M_NS_nameOf.2.1 54 = .ok (.areturn, 1) := by decide +kernel
theorem d_NS_nameOf_55 : decode M_NS_nameOf.2.1 55 = .ok (.ldc 41, 2) := by decide +kernel
theorem d_NS_nameOf_57 : decode M_NS_nameOf.2.1 57 = .ok (.areturn, 1) := by decide +kernel
theorem d_NS_nameOf_58 : decode M_NS_nameOf.2.1 58 = .ok (.ldc 43, 2) := by decide +kernel
theorem d_NS_nameOf_60 : decode M_NS_nameOf.2.1 60 = .ok (.areturn, 1) := by decide +kernel
theorem d_NS_nameOf_61 : decode M_NS_nameOf.2.1 61 = .ok (.ldc 45, 2) := by decide +kernel
theorem d_NS_nameOf_63 : decode M_NS_nameOf.2.1 63 = .ok (.areturn, 1) := by decide +kernel
theorem d_NS_nameOf_64 : decode M_NS_nameOf.2.1 64 = .ok (.ldc 47, 2) := by decide +kernel
theorem d_NS_nameOf_66 : decode M_NS_nameOf.2.1 66 = .ok (.areturn, 1) := by decide +kernel
theorem d_NS_nameOf_67 : decode M_NS_nameOf.2.1 67 = .ok (.ldc 49, 2) := by decide +kernel
theorem d_NS_nameOf_69 : decode M_NS_nameOf.2.1 69 = .ok (.areturn, 1) := by decide +kernel
theorem d_NS_nameOf_70 : decode M_NS_nameOf.2.1 70 = .ok (.ldc 51, 2) := by decide +kernel
theorem d_NS_nameOf_72 : decode M_NS_nameOf.2.1 72 = .ok (.areturn, 1) := by decide +kernel
theorem d_NS_nameOf_73 : decode M_NS_nameOf.2.1 73 = .ok (.ldc 53, 2) := by decide +kernel
theorem d_NS_nameOf_75 : decode M_NS_nameOf.2.1 75 = .ok (.areturn, 1) := by decide +kernel
theorem d_NS_nameOf_76 : decode M_NS_nameOf.2.1 76 = .ok (.ldc 55, 2) := by decide +kernel
theorem d_NS_nameOf_78 : decode M_NS_nameOf.2.1 78 = .ok (.areturn, 1) := by decide +kernel
theorem d_NS_nameOf_79 : decode M_NS_nameOf.2.1 79 = .ok (.ldc 57, 2) := by decide +kernel
theorem d_NS_nameOf_81 : decode M_NS_nameOf.2.1 81 = .ok (.areturn, 1) := by decide +kernel
theorem d_NS_edgesOf_0 : decode M_NS_edgesOf.2.1 0 = .ok (.iload_n 0, 1) := by decide +kernel
theorem d_NS_edgesOf_1 : decode M_NS_edgesOf.2.1 1 = .ok (.tableswitch 87 0 8 #[51, 55, 59, 63, 67, 71, 75, 79, 83], 51) := by decide +kernel
theorem d_NS_edgesOf_52 : decode M_NS_edgesOf.2.1 52 = .ok (.getstatic 59, 3) := by decide +kernel
theorem d_NS_edgesOf_55 : decode M_NS_edgesOf.2.1 55 = .ok (.areturn, 1) := by decide +kernel
theorem d_NS_edgesOf_56 : decode M_NS_edgesOf.2.1 56 = .ok (.getstatic 62, 3) := by decide +kernel
theorem d_NS_edgesOf_59 : decode M_NS_edgesOf.2.1 59 = .ok (.areturn, 1) := by decide +kernel
theorem d_NS_edgesOf_60 : decode M_NS_edgesOf.2.1 60 = .ok (.getstatic 65, 3) := by decide +kernel
theorem d_NS_edgesOf_63 : decode M_NS_edgesOf.2.1 63 = .ok (.areturn, 1) := by decide +kernel
theorem d_NS_edgesOf_64 : decode M_NS_edgesOf.2.1 64 = .ok (.getstatic 68, 3) := by decide +kernel
theorem d_NS_edgesOf_67 : decode M_NS_edgesOf.2.1 67 = .ok (.areturn, 1) := by decide +kernel
theorem d_NS_edgesOf_68 : decode M_NS_edgesOf.2.1 68 = .ok (.getstatic 71, 3) := by decide +kernel
theorem d_NS_edgesOf_71 : decode M_NS_edgesOf.2.1 71 = .ok (.areturn, 1) := by decide +kernel
theorem d_NS_edgesOf_72 : decode M_NS_edgesOf.2.1 72 = .ok (.getstatic 74, 3) := by decide +kernel
theorem d_NS_edgesOf_75 : decode M_NS_edgesOf.2.1 75 = .ok (.areturn, 1) := by decide +kernel
theorem d_NS_edgesOf_76 : decode M_NS_edgesOf.2.1 76 = .ok (.getstatic 77, 3) := by decide +kernel
theorem d_NS_edgesOf_79 : decode M_NS_edgesOf.2.1 79 = .ok (.areturn, 1) := by decide +kernel
theorem d_NS_edgesOf_80 : decode M_NS_edgesOf.2.1 80 = .ok (.getstatic 80, 3) := by decide +kernel
theorem d_NS_edgesOf_83 : decode M_NS_edgesOf.2.1 83 = .ok (.areturn, 1) := by decide +kernel
theorem d_NS_edgesOf_84 : decode M_NS_edgesOf.2.1 84 = .ok (.getstatic 83, 3) := by decide +kernel
theorem d_NS_edgesOf_87 : decode M_NS_edgesOf.2.1 87 = .ok (.areturn, 1) := by decide +kernel
theorem d_NS_edgesOf_88 : decode M_NS_edgesOf.2.1 88 = .ok (.getstatic 86, 3) := by decide +kernel
theorem d_NS_edgesOf_91 : decode M_NS_edgesOf.2.1 91 = .ok (.areturn, 1) := by decide +kernel
theorem d_OB_init_0 : decode M_OB_init.2.1 0 = .ok (.aload_n 0, 1) := by decide +kernel
theorem d_OB_init_1 : decode M_OB_init.2.1 1 = .ok (.invokespecial 3, 3) := by decide +kernel
theorem d_OB_init_4 : decode M_OB_init.2.1 4 = .ok (.aload_n 0, 1) := by decide +kernel
theorem d_OB_init_5 : decode M_OB_init.2.1 5 = .ok (.new 9, 3) := by decide +kernel
theorem d_OB_init_8 : decode M_OB_init.2.1 8 = .ok (.dup, 1) := by decide +kernel
theorem d_OB_init_9 : decode M_OB_init.2.1 9 = .ok (.invokespecial 11, 3) := by decide +kernel
theorem d_OB_init_12 : decode M_OB_init.2.1 12 = .ok (.putfield 12, 3) := by decide +kernel
theorem d_OB_init_15 : decode M_OB_init.2.1 15 = .ok (.return_, 1) := by decide +kernel
theorem d_OB_begin_0 : decode M_OB_begin.2.1 0 = .ok (.aload_n 0, 1) := by decide +kernel
theorem d_OB_begin_1 : decode M_OB_begin.2.1 1 = .ok (.getfield 12, 3) := by decide +kernel
theorem d_OB_begin_4 : decode M_OB_begin.2.1 4 = .ok (.invokevirtual 18, 3) := by decide +kernel
theorem d_OB_begin_7 : decode M_OB_begin.2.1 7 = .ok (.aload_n 0, 1) := by decide +kernel
theorem d_OB_begin_8 : decode M_OB_begin.2.1 8 = .ok (.iload_n 1, 1) := by decide +kernel
theorem d_OB_begin_9 : decode M_OB_begin.2.1 9 = .ok (.putfield 21, 3) := by decide +kernel
theorem d_OB_begin_12 : decode M_OB_begin.2.1 12 = .ok (.aload_n 0, 1) := by decide +kernel
theorem d_OB_begin_13 : decode M_OB_begin.2.1 13 = .ok (.iconst 0, 1) := by decide +kernel
theorem d_OB_begin_14 : decode M_OB_begin.2.1 14 = .ok (.putfield 25, 3) := by decide +kernel
theorem d_OB_begin_17 : decode M_OB_begin.2.1 17 = .ok (.aload_n 0, 1) := by decide +kernel
theorem d_OB_begin_18 : decode M_OB_begin.2.1 18 = .ok (.iconst 0, 1) := by decide +kernel
theorem d_OB_begin_19 : decode M_OB_begin.2.1 19 = .ok (.putfield 29, 3) := by decide +kernel
theorem d_OB_begin_22 : decode M_OB_begin.2.1 22 = .ok (.aload_n 0, 1) := by decide +kernel
theorem d_OB_begin_23 : decode M_OB_begin.2.1 23 = .ok (.iconst 0, 1) := by decide +kernel
theorem d_OB_begin_24 : decode M_OB_begin.2.1 24 = .ok (.putfield 32, 3) := by decide +kernel
theorem d_OB_begin_27 : decode M_OB_begin.2.1 27 = .ok (.return_, 1) := by decide +kernel
theorem d_PW_init_0 : decode M_PW_init.2.1 0 = .ok (.aload_n 0, 1) := by decide +kernel
theorem d_PW_init_1 : decode M_PW_init.2.1 1 = .ok (.invokespecial 3, 3) := by decide +kernel
theorem d_PW_init_4 : decode M_PW_init.2.1 4 = .ok (.aload_n 0, 1) := by decide +kernel
theorem d_PW_init_5 : decode M_PW_init.2.1 5 = .ok (.new 9, 3) := by decide +kernel
theorem d_PW_init_8 : decode M_PW_init.2.1 8 = .ok (.dup, 1) := by decide +kernel
theorem d_PW_init_9 : decode M_PW_init.2.1 9 = .ok (.invokespecial 11, 3) := by decide +kernel
theorem d_PW_init_12 : decode M_PW_init.2.1 12 = .ok (.putfield 12, 3) := by decide +kernel
theorem d_PW_init_15 : decode M_PW_init.2.1 15 = .ok (.return_, 1) := by decide +kernel
theorem d_PW_writePattern_0 : decode M_PW_writePattern.2.1 0 = .ok (.aload_n 0, 1) := by decide +kernel
theorem d_PW_writePattern_1 : decode M_PW_writePattern.2.1 1 = .ok (.getfield 12, 3) := by decide +kernel
theorem d_PW_writePattern_4 : decode M_PW_writePattern.2.1 4 = .ok (.invokevirtual 18, 3) := by decide +kernel
theorem d_PW_writePattern_7 : decode M_PW_writePattern.2.1 7 = .ok (.aload_n 0, 1) := by decide +kernel
theorem d_PW_writePattern_8 : decode M_PW_writePattern.2.1 8 = .ok (.iconst 1, 1) := by decide +kernel
theorem d_PW_writePattern_9 : decode M_PW_writePattern.2.1 9 = .ok (.putfield 21, 3) := by decide +kernel
theorem d_PW_writePattern_12 : decode M_PW_writePattern.2.1 12 = .ok (.aload_n 0, 1) := by decide +kernel
theorem d_PW_writePattern_13 : decode M_PW_writePattern.2.1 13 = .ok (.bipush 91, 2) := by decide +kernel
theorem d_PW_writePattern_15 : decode M_PW_writePattern.2.1 15 = .ok (.invokevirtual 25, 3) := by decide +kernel
theorem d_PW_writePattern_18 : decode M_PW_writePattern.2.1 18 = .ok (.iconst 0, 1) := by decide +kernel
theorem d_PW_writePattern_19 : decode M_PW_writePattern.2.1 19 = .ok (.istore_n 2, 1) := by decide +kernel
theorem d_PW_writePattern_20 : decode M_PW_writePattern.2.1 20 = .ok (.iload_n 2, 1) := by decide +kernel
theorem d_PW_writePattern_21 : decode M_PW_writePattern.2.1 21 = .ok (.iconst 1, 1) := by decide +kernel
theorem d_PW_writePattern_22 : decode M_PW_writePattern.2.1 22 = .ok (.iadd, 1) := by decide +kernel
theorem d_PW_writePattern_23 : decode M_PW_writePattern.2.1 23 = .ok (.aload_n 1, 1) := by decide +kernel
theorem d_PW_writePattern_24 : decode M_PW_writePattern.2.1 24 = .ok (.getfield 29, 3) := by decide +kernel
theorem d_PW_writePattern_27 : decode M_PW_writePattern.2.1 27 = .ok (.if_icmp .ge 36, 3) := by decide +kernel
theorem d_PW_writePattern_30 : decode M_PW_writePattern.2.1 30 = .ok (.aload_n 0, 1) := by decide +kernel
theorem d_PW_writePattern_31 : decode M_PW_writePattern.2.1 31 = .ok (.getfield 21, 3) := by decide +kernel
theorem d_PW_writePattern_34 : decode M_PW_writePattern.2.1 34 = .ok (.ifCond .eq 29, 3) := by decide +kernel
theorem d_PW_writePattern_37 : decode M_PW_writePattern.2.1 37 = .ok (.aload_n 0, 1) := by decide +kernel
theorem d_PW_writePattern_38 : decode M_PW_writePattern.2.1 38 = .ok (.aload_n 1, 1) := by decide +kernel
theorem d_PW_writePattern_39 : decode M_PW_writePattern.2.1 39 = .ok (.getfield 35, 3) := by decide +kernel
theorem d_PW_writePattern_42 : decode M_PW_writePattern.2.1 42 = .ok (.iload_n 2, 1) := by decide +kernel
theorem d_PW_writePattern_43 : decode M_PW_writePattern.2.1 43 = .ok (.iaload, 1) := by decide +kernel
theorem d_PW_writePattern_44 : decode M_PW_writePattern.2.1 44 = .ok (.aload_n 1, 1) := by decide +kernel
theorem d_PW_writePattern_45 : decode M_PW_writePattern.2.1 45 = .ok (.getfield 35, 3) := by decide +kernel
theorem d_PW_writePattern_48 : decode M_PW_writePattern.2.1 48 = .ok (.iload_n 2, 1) := by decide +kernel
theorem d_PW_writePattern_49 : decode M_PW_writePattern.2.1 49 = .ok (.iconst 1, 1) := by decide +kernel
theorem d_PW_writePattern_50 : decode M_PW_writePattern.2.1 50 = .ok (.iadd, 1) := by decide +kernel
theorem d_PW_writePattern_51 : decode M_PW_writePattern.2.1 51 = .ok (.iaload, 1) := by decide +kernel
theorem d_PW_writePattern_52 : decode M_PW_writePattern.2.1 52 = .ok (.iconst 1, 1) := by decide +kernel
theorem d_PW_writePattern_53 : decode M_PW_writePattern.2.1 53 = .ok (.isub, 1) := by decide +kernel
theorem d_PW_writePattern_54 : decode M_PW_writePattern.2.1 54 = .ok (.invokevirtual 39, 3) := by decide +kernel
theorem d_PW_writePattern_57 : decode M_PW_writePattern.2.1 57 = .ok (.iinc 2 2, 3) := by decide +kernel
theorem d_PW_writePattern_60 : decode M_PW_writePattern.2.1 60 = .ok (.goto (-40), 3) := by decide +kernel
theorem d_PW_writePattern_63 : decode M_PW_writePattern.2.1 63 = .ok (.iconst 0, 1) := by decide +kernel
theorem d_PW_writePattern_64 : decode M_PW_writePattern.2.1 64 = .ok (.istore_n 2, 1) := by decide +kernel
theorem d_PW_writePattern_65 : decode M_PW_writePattern.2.1 65 = .ok (.iload_n 2, 1) := by decide +kernel
theorem d_PW_writePattern_66 : decode M_PW_writePattern.2.1 66 = .ok (.aload_n 1, 1) := by decide +kernel
theorem d_PW_writePattern_67 : decode M_PW_writePattern.2.1 67 = .ok (.getfield 43, 3) := by decide +kernel
theorem d_PW_writePattern_70 : decode M_PW_writePattern.2.1 70 = .ok (.if_icmp .ge 26, 3) := by decide +kernel
theorem d_PW_writePattern_73 : decode M_PW_writePattern.2.1 73 = .ok (.aload_n 0, 1) := by decide +kernel
theorem d_PW_writePattern_74 : decode M_PW_writePattern.2.1 74 = .ok (.getfield 21, 3) := by decide +kernel
theorem d_PW_writePattern_77 : decode M_PW_writePattern.2.1 77 = .ok (.ifCond .eq 19, 3) := by decide +kernel
theorem d_PW_writePattern_80 : decode M_PW_writePattern.2.1 80 = .ok (.aload_n 0, 1) := by decide +kernel
theorem d_PW_writePattern_81 : decode M_PW_writePattern.2.1 81 = .ok (.aload_n 1, 1) := by decide +kernel
theorem d_PW_writePattern_82 : decode M_PW_writePattern.2.1 82 = .ok (.getfield 46, 3) := by decide +kernel
theorem d_PW_writePattern_85 : decode M_PW_writePattern.2.1 85 = .ok (.iload_n 2, 1) := by decide +kernel
theorem d_PW_writePattern_86 : decode M_PW_writePattern.2.1 86 = .ok (.laload, 1) := by decide +kernel
theorem d_PW_writePattern_87 : decode M_PW_writePattern.2.1 87 = .ok (.invokevirtual 50, 3) := by decide +kernel
theorem d_PW_writePattern_90 : decode M_PW_writePattern.2.1 90 = .ok (.iinc 2 1, 3) := by decide +kernel
theorem d_PW_writePattern_93 : decode M_PW_writePattern.2.1 93 = .ok (.goto (-28), 3) := by decide +kernel
theorem d_PW_writePattern_96 : decode M_PW_writePattern.2.1 96 = .ok (.aload_n 0, 1) := by decide +kernel
theorem d_PW_writePattern_97 : decode M_PW_writePattern.2.1 97 = .ok (.bipush 93, 2) := by decide +kernel
theorem d_PW_writePattern_99 : decode M_PW_writePattern.2.1 99 = .ok (.invokevirtual 25, 3) := by decide +kernel
theorem d_PW_writePattern_102 : decode M_PW_writePattern.2.1 102 = .ok (.aload_n 0, 1) := by decide +kernel
theorem d_PW_writePattern_103 : decode M_PW_writePattern.2.1 103 = .ok (.getfield 21, 3) := by decide +kernel
theorem d_PW_writePattern_106 : decode M_PW_writePattern.2.1 106 = .ok (.ireturn, 1) := by decide +kernel
theorem d_PW_writeRange_0 : decode M_PW_writeRange.2.1 0 = .ok (.aload_n 0, 1) := by decide +kernel
theorem d_PW_writeRange_1 : decode M_PW_writeRange.2.1 1 = .ok (.iload_n 1, 1) := by decide +kernel
theorem d_PW_writeRange_2 : decode M_PW_writeRange.2.1 2 = .ok (.invokevirtual 54, 3) := by decide +kernel
theorem d_PW_writeRange_5 : decode M_PW_writeRange.2.1 5 = .ok (.iload_n 2, 1) := by decide +kernel
theorem d_PW_writeRange_6 : decode M_PW_writeRange.2.1 6 = .ok (.iload_n 1, 1) := by decide +kernel
theorem d_PW_writeRange_7 : decode M_PW_writeRange.2.1 7 = .ok (.if_icmp .ne 4, 3) := by decide +kernel
theorem d_PW_writeRange_10 : decode M_PW_writeRange.2.1 10 = .ok (.return_, 1) := by decide +kernel
theorem d_PW_writeRange_11 : decode M_PW_writeRange.2.1 11 = .ok (.iload_n 2, 1) := by decide +kernel
theorem d_PW_writeRange_12 : decode M_PW_writeRange.2.1 12 = .ok (.iload_n 1, 1) := by decide +kernel
theorem d_PW_writeRange_13 : decode M_PW_writeRange.2.1 13 = .ok (.iconst 1, 1) := by decide +kernel
theorem d_PW_writeRange_14 : decode M_PW_writeRange.2.1 14 = .ok (.iadd, 1) := by decide +kernel
theorem d_PW_writeRange_15 : decode M_PW_writeRange.2.1 15 = .ok (.if_icmp .le 9, 3) := by decide +kernel
theorem d_PW_writeRange_18 : decode M_PW_writeRange.2.1 18 = .ok (.aload_n 0, 1) := by decide +kernel
theorem d_PW_writeRange_19 : decode M_PW_writeRange.2.1 19 = .ok (.bipush 45, 2) := by decide +kernel
theorem d_PW_writeRange_21 : decode M_PW_writeRange.2.1 21 = .ok (.invokevirtual 25, 3) := by decide +kernel
theorem d_PW_writeRange_24 : decode M_PW_writeRange.2.1 24 = .ok (.aload_n 0, 1) := by decide +kernel
theorem d_PW_writeRange_25 : decode M_PW_writeRange.2.1 25 = .ok (.iload_n 2, 1) := by decide +kernel
theorem d_PW_writeRange_26 : decode M_PW_writeRange.2.1 26 = .ok (.invokevirtual 54, 3) := by decide +kernel
theorem d_PW_writeRange_29 : decode M_PW_writeRange.2.1 29 = .ok (.return_, 1) := by decide +kernel
theorem d_PW_writeString_0 : decode M_PW_writeString.2.1 0 = .ok (.aload_n 0, 1) := by decide +kernel
theorem d_PW_writeString_1 : decode M_PW_writeString.2.1 1 = .ok (.bipush 123, 2) := by decide +kernel
theorem d_PW_writeString_3 : decode M_PW_writeString.2.1 3 = .ok (.invokevirtual 25, 3) := by decide +kernel
theorem d_PW_writeString_6 : decode M_PW_writeString.2.1 6 = .ok (.iconst 0, 1) := by decide +kernel
theorem d_PW_writeString_7 : decode M_PW_writeString.2.1 7 = .ok (.istore_n 3, 1) := by decide +kernel
theorem d_PW_writeString_8 : decode M_PW_writeString.2.1 8 = .ok (.iload_n 3, 1) := by decide +kernel
theorem d_PW_writeString_9 : decode M_PW_writeString.2.1 9 = .ok (.iconst 3, 1) := by decide +kernel
theorem d_PW_writeString_10 : decode M_PW_writeString.2.1 10 = .ok (.if_icmp .ge 28, 3) := by decide +kernel
theorem d_PW_writeString_13 : decode M_PW_writeString.2.1 13 = .ok (.lload_n 1, 1) := by decide +kernel
theorem d_PW_writeString_14 : decode M_PW_writeString.2.1 14 = .ok (.iload_n 3, 1) := by decide +kernel
theorem d_PW_writeString_15 : decode M_PW_writeString.2.1 15 = .ok (.invokestatic 57, 3) := by decide +kernel
theorem d_PW_writeString_18 : decode M_PW_writeString.2.1 18 = .ok (.istore 4, 2) := by decide +kernel
theorem d_PW_writeString_20 : decode M_PW_writeString.2.1 20 = .ok (.iload 4, 2) := by decide +kernel
theorem d_PW_writeString_22 : decode M_PW_writeString.2.1 22 = .ok (.iconst (-1), 1) := by decide +kernel
theorem d_PW_writeString_23 : decode M_PW_writeString.2.1 23 = .ok (.if_icmp .eq 9, 3) := by decide +kernel
theorem d_PW_writeString_26 : decode M_PW_writeString.2.1 26 = .ok (.aload_n 0, 1) := by decide +kernel
theorem d_PW_writeString_27 : decode M_PW_writeString.2.1 27 = .ok (.iload 4, 2) := by decide +kernel
theorem d_PW_writeString_29 : decode M_PW_writeString.2.1 29 = .ok (.invokevirtual 54, 3) := by decide +kernel
theorem d_PW_writeString_32 : decode M_PW_writeString.2.1 32 = .ok (.iinc 3 1, 3) := by decide +kernel
theorem d_PW_writeString_35 : decode M_PW_writeString.2.1 35 = .ok (.goto (-27), 3) := by decide +kernel
theorem d_PW_writeString_38 : decode M_PW_writeString.2.1 38 = .ok (.aload_n 0, 1) := by decide +kernel
theorem d_PW_writeString_39 : decode M_PW_writeString.2.1 39 = .ok (.bipush 125, 2) := by decide +kernel
theorem d_PW_writeString_41 : decode M_PW_writeString.2.1 41 = .ok (.invokevirtual 25, 3) := by decide +kernel
theorem d_PW_writeString_44 : decode M_PW_writeString.2.1 44 = .ok (.return_, 1) := by decide +kernel
theorem d_PW_writeCode_0 : decode M_PW_writeCode.2.1 0 = .ok (.iload_n 1, 1) := by decide +kernel
theorem d_PW_writeCode_1 : decode M_PW_writeCode.2.1 1 = .ok (.bipush 33, 2) := by decide +kernel
theorem d_PW_writeCode_3 : decode M_PW_writeCode.2.1 3 = .ok (.if_icmp .lt 9, 3) := by decide +kernel
theorem d_PW_writeCode_6 : decode M_PW_writeCode.2.1 6 = .ok (.iload_n 1, 1) := by decide +kernel
theorem d_PW_writeCode_7 : decode M_PW_writeCode.2.1 7 = .ok (.bipush 126, 2) := by decide +kernel
theorem d_PW_writeCode_9 : decode M_PW_writeCode.2.1 9 = .ok (.if_icmp .le 9, 3) := by decide +kernel
theorem d_PW_writeCode_12 : decode M_PW_writeCode.2.1 12 = .ok (.aload_n 0, 1) := by decide +kernel
theorem d_PW_writeCode_13 : decode M_PW_writeCode.2.1 13 = .ok (.iload_n 1, 1) := by decide +kernel
theorem d_PW_writeCode_14 : decode M_PW_writeCode.2.1 14 = .ok (.invokevirtual 61, 3) := by decide +kernel
theorem d_PW_writeCode_17 : decode M_PW_writeCode.2.1 17 = .ok (.return_, 1) := by decide +kernel
theorem d_PW_writeCode_18 : decode M_PW_writeCode.2.1 18 = .ok (.iload_n 1, 1) := by decide +kernel
theorem d_PW_writeCode_19 : decode M_PW_writeCode.2.1 19 = .ok (.invokestatic 64, 3) := by decide +kernel
theorem d_PW_writeCode_22 : decode M_PW_writeCode.2.1 22 = .ok (.ifCond .eq 9, 3) := by decide +kernel
theorem d_PW_writeCode_25 : decode M_PW_writeCode.2.1 25 = .ok (.aload_n 0, 1) := by decide +kernel
theorem d_PW_writeCode_26 : decode M_PW_writeCode.2.1 26 = .ok (.bipush 92, 2) := by decide +kernel
theorem d_PW_writeCode_28 : decode M_PW_writeCode.2.1 28 = .ok (.invokevirtual 25, 3) := by decide +kernel
theorem d_PW_writeCode_31 : decode M_PW_writeCode.2.1 31 = .ok (.aload_n 0, 1) := by decide +kernel
theorem d_PW_writeCode_32 : decode M_PW_writeCode.2.1 32 = .ok (.iload_n 1, 1) := by decide +kernel
theorem d_PW_writeCode_33 : decode M_PW_writeCode.2.1 33 = .ok (.invokevirtual 25, 3) := by decide +kernel
theorem d_PW_writeCode_36 : decode M_PW_writeCode.2.1 36 = .ok (.return_, 1) := by decide +kernel
theorem d_PW_writeHex_0 : decode M_PW_writeHex.2.1 0 = .ok (.aload_n 0, 1) := by decide +kernel
theorem d_PW_writeHex_1 : decode M_PW_writeHex.2.1 1 = .ok (.bipush 92, 2) := by decide +kernel
theorem d_PW_writeHex_3 : decode M_PW_writeHex.2.1 3 = .ok (.invokevirtual 25, 3) := by decide +kernel
theorem d_PW_writeHex_6 : decode M_PW_writeHex.2.1 6 = .ok (.aload_n 0, 1) := by decide +kernel
theorem d_PW_writeHex_7 : decode M_PW_writeHex.2.1 7 = .ok (.bipush 120, 2) := by decide +kernel
theorem d_PW_writeHex_9 : decode M_PW_writeHex.2.1 9 = .ok (.invokevirtual 25, 3) := by decide +kernel
theorem d_PW_writeHex_12 : decode M_PW_writeHex.2.1 12 = .ok (.aload_n 0, 1) := by decide +kernel
theorem d_PW_writeHex_13 : decode M_PW_writeHex.2.1 13 = .ok (.bipush 123, 2) := by decide +kernel
theorem d_PW_writeHex_15 : decode M_PW_writeHex.2.1 15 = .ok (.invokevirtual 25, 3) := by decide +kernel
theorem d_PW_writeHex_18 : decode M_PW_writeHex.2.1 18 = .ok (.bipush 20, 2) := by decide +kernel
theorem d_PW_writeHex_20 : decode M_PW_writeHex.2.1 20 = .ok (.istore_n 2, 1) := by decide +kernel
theorem d_PW_writeHex_21 : decode M_PW_writeHex.2.1 21 = .ok (.iload_n 2, 1) := by decide +kernel
theorem d_PW_writeHex_22 : decode M_PW_writeHex.2.1 22 = .ok (.ifCond .lt 50, 3) := by decide +kernel
theorem d_PW_writeHex_25 : decode M_PW_writeHex.2.1 25 = .ok (.iload_n 1, 1) := by decide +kernel
theorem d_PW_writeHex_26 : decode M_PW_writeHex.2.1 26 = .ok (.iload_n 2, 1) := by decide +kernel
theorem d_PW_writeHex_27 : decode M_PW_writeHex.2.1 27 = .ok (.ishr, 1) := by decide +kernel
theorem d_PW_writeHex_28 : decode M_PW_writeHex.2.1 28 = .ok (.ifCond .ne 7, 3) := by decide +kernel
theorem d_PW_writeHex_31 : decode M_PW_writeHex.2.1 31 = .ok (.iload_n 2, 1) := by decide +kernel
theorem d_PW_writeHex_32 : decode M_PW_writeHex.2.1 32 = .ok (.ifCond .ne 34, 3) := by decide +kernel
theorem d_PW_writeHex_35 : decode M_PW_writeHex.2.1 35 = .ok (.iload_n 1, 1) := by decide +kernel
theorem d_PW_writeHex_36 : decode M_PW_writeHex.2.1 36 = .ok (.iload_n 2, 1) := by decide +kernel
theorem d_PW_writeHex_37 : decode M_PW_writeHex.2.1 37 = .ok (.ishr, 1) := by decide +kernel
theorem d_PW_writeHex_38 : decode M_PW_writeHex.2.1 38 = .ok (.bipush 15, 2) := by decide +kernel
theorem d_PW_writeHex_40 : decode M_PW_writeHex.2.1 40 = .ok (.iand, 1) := by decide +kernel
theorem d_PW_writeHex_41 : decode M_PW_writeHex.2.1 41 = .ok (.istore_n 3, 1) := by decide +kernel
theorem d_PW_writeHex_42 : decode M_PW_writeHex.2.1 42 = .ok (.aload_n 0, 1) := by decide +kernel
theorem d_PW_writeHex_43 : decode M_PW_writeHex.2.1 43 = .ok (.iload_n 3, 1) := by decide +kernel
theorem d_PW_writeHex_44 : decode M_PW_writeHex.2.1 44 = .ok (.bipush 10, 2) := by decide +kernel
theorem d_PW_writeHex_46 : decode M_PW_writeHex.2.1 46 = .ok (.if_icmp .ge 10, 3) := by decide +kernel
theorem d_PW_writeHex_49 : decode M_PW_writeHex.2.1 49 = .ok (.bipush 48, 2) := by decide +kernel
theorem d_PW_writeHex_51 : decode M_PW_writeHex.2.1 51 = .ok (.iload_n 3, 1) := by decide +kernel
theorem d_PW_writeHex_52 : decode M_PW_writeHex.2.1 52 = .ok (.iadd, 1) := by decide +kernel
theorem d_PW_writeHex_53 : decode M_PW_writeHex.2.1 53 = .ok (.goto 10, 3) := by decide +kernel
theorem d_PW_writeHex_56 : decode M_PW_writeHex.2.1 56 = .ok (.bipush 97, 2) := by decide +kernel
theorem d_PW_writeHex_58 : decode M_PW_writeHex.2.1 58 = .ok (.iload_n 3, 1) := by decide +kernel
theorem d_PW_writeHex_59 : decode M_PW_writeHex.2.1 59 = .ok (.iadd, 1) := by decide +kernel
theorem d_PW_writeHex_60 : decode M_PW_writeHex.2.1 60 = .ok (.bipush 10, 2) := by decide +kernel
theorem d_PW_writeHex_62 : decode M_PW_writeHex.2.1 62 = .ok (.isub, 1) := by decide +kernel
theorem d_PW_writeHex_63 : decode M_PW_writeHex.2.1 63 = .ok (.invokevirtual 25, 3) := by decide +kernel
theorem d_PW_writeHex_66 : decode M_PW_writeHex.2.1 66 = .ok (.iinc 2 (-4), 3) := by decide +kernel
theorem d_PW_writeHex_69 : decode M_PW_writeHex.2.1 69 = .ok (.goto (-48), 3) := by decide +kernel
theorem d_PW_writeHex_72 : decode M_PW_writeHex.2.1 72 = .ok (.aload_n 0, 1) := by decide +kernel
theorem d_PW_writeHex_73 : decode M_PW_writeHex.2.1 73 = .ok (.bipush 125, 2) := by decide +kernel
theorem d_PW_writeHex_75 : decode M_PW_writeHex.2.1 75 = .ok (.invokevirtual 25, 3) := by decide +kernel
theorem d_PW_writeHex_78 : decode M_PW_writeHex.2.1 78 = .ok (.return_, 1) := by decide +kernel
theorem d_PW_put_0 : decode M_PW_put.2.1 0 = .ok (.aload_n 0, 1) := by decide +kernel
theorem d_PW_put_1 : decode M_PW_put.2.1 1 = .ok (.getfield 12, 3) := by decide +kernel
theorem d_PW_put_4 : decode M_PW_put.2.1 4 = .ok (.iload_n 1, 1) := by decide +kernel
theorem d_PW_put_5 : decode M_PW_put.2.1 5 = .ok (.invokevirtual 68, 3) := by decide +kernel
theorem d_PW_put_8 : decode M_PW_put.2.1 8 = .ok (.ifCond .ne 8, 3) := by decide +kernel
theorem d_PW_put_11 : decode M_PW_put.2.1 11 = .ok (.aload_n 0, 1) := by decide +kernel
theorem d_PW_put_12 : decode M_PW_put.2.1 12 = .ok (.iconst 0, 1) := by decide +kernel
theorem d_PW_put_13 : decode M_PW_put.2.1 13 = .ok (.putfield 21, 3) := by decide +kernel
theorem d_PW_put_16 : decode M_PW_put.2.1 16 = .ok (.return_, 1) := by decide +kernel
theorem d_PW_isSign_0 : decode M_PW_isSign.2.1 0 = .ok (.iload_n 0, 1) := by decide +kernel
theorem d_PW_isSign_1 : decode M_PW_isSign.2.1 1 = .ok (.lookupswitch 85 #[(38, 83), (45, 83), (58, 83), (91, 83), (92, 83), (93, 83), (94, 83), (123, 83), (125, 83)], 83) := by decide +kernel
theorem d_PW_isSign_84 : decode M_PW_isSign.2.1 84 = .ok (.iconst 1, 1) := by decide +kernel
theorem d_PW_isSign_85 : decode M_PW_isSign.2.1 85 = .ok (.ireturn, 1) := by decide +kernel
theorem d_PW_isSign_86 : decode M_PW_isSign.2.1 86 = .ok (.iconst 0, 1) := by decide +kernel
theorem d_PW_isSign_87 : decode M_PW_isSign.2.1 87 = .ok (.ireturn, 1) := by decide +kernel
end
section
/-! decode rows of TR: written by wip/gen/mknames.py -/
theorem d_TR_init_0 : decode M_TR_init.2.1 0 = .ok (.aload_n 0, 1) := by decide +kernel
theorem d_TR_init_1 : decode M_TR_init.2.1 1 = .ok (.invokespecial 3, 3) := by decide +kernel
theorem d_TR_init_4 : decode M_TR_init.2.1 4 = .ok (.aload_n 0, 1) := by decide +kernel
theorem d_TR_init_5 : decode M_TR_init.2.1 5 = .ok (.new 9, 3) := by decide +kernel
theorem d_TR_init_8 : decode M_TR_init.2.1 8 = .ok (.dup, 1) := by decide +kernel
theorem d_TR_init_9 : decode M_TR_init.2.1 9 = .ok (.invokespecial 11, 3) := by decide +kernel
theorem d_TR_init_12 : decode M_TR_init.2.1 12 = .ok (.putfield 12, 3) := by decide +kernel
theorem d_TR_init_15 : decode M_TR_init.2.1 15 = .ok (.aload_n 0, 1) := by decide +kernel
theorem d_TR_init_16 : decode M_TR_init.2.1 16 = .ok (.bipush 60, 2) := by decide +kernel
theorem d_TR_init_18 : decode M_TR_init.2.1 18 = .ok (.newarray .int, 2) := by decide +kernel
theorem d_TR_init_20 : decode M_TR_init.2.1 20 = .ok (.putfield 18, 3) := by decide +kernel
theorem d_TR_init_23 : decode M_TR_init.2.1 23 = .ok (.aload_n 0, 1) := by decide +kernel
theorem d_TR_init_24 : decode M_TR_init.2.1 24 = .ok (.bipush 60, 2) := by decide +kernel
theorem d_TR_init_26 : decode M_TR_init.2.1 26 = .ok (.newarray .int, 2) := by decide +kernel
theorem d_TR_init_28 : decode M_TR_init.2.1 28 = .ok (.putfield 22, 3) := by decide +kernel
theorem d_TR_init_31 : decode M_TR_init.2.1 31 = .ok (.aload_n 0, 1) := by decide +kernel
theorem d_TR_init_32 : decode M_TR_init.2.1 32 = .ok (.new 9, 3) := by decide +kernel
theorem d_TR_init_35 : decode M_TR_init.2.1 35 = .ok (.dup, 1) := by decide +kernel
theorem d_TR_init_36 : decode M_TR_init.2.1 36 = .ok (.invokespecial 11, 3) := by decide +kernel
theorem d_TR_init_39 : decode M_TR_init.2.1 39 = .ok (.putfield 25, 3) := by decide +kernel
theorem d_TR_init_42 : decode M_TR_init.2.1 42 = .ok (.return_, 1) := by decide +kernel
theorem d_TR_kindAt_0 : decode M_TR_kindAt.2.1 0 = .ok (.iload_n 1, 1) := by decide +kernel
theorem d_TR_kindAt_1 : decode M_TR_kindAt.2.1 1 = .ok (.ifCond .lt 20, 3) := by decide +kernel
theorem d_TR_kindAt_4 : decode M_TR_kindAt.2.1 4 = .ok (.iload_n 1, 1) := by decide +kernel
theorem d_TR_kindAt_5 : decode M_TR_kindAt.2.1 5 = .ok (.aload_n 0, 1) := by decide +kernel
theorem d_TR_kindAt_6 : decode M_TR_kindAt.2.1 6 = .ok (.getfield 28, 3) := by decide +kernel
theorem d_TR_kindAt_9 : decode M_TR_kindAt.2.1 9 = .ok (.if_icmp .ge 12, 3) := by decide +kernel
theorem d_TR_kindAt_12 : decode M_TR_kindAt.2.1 12 = .ok (.aload_n 0, 1) := by decide +kernel
theorem d_TR_kindAt_13 : decode M_TR_kindAt.2.1 13 = .ok (.getfield 18, 3) := by decide +kernel
theorem d_TR_kindAt_16 : decode M_TR_kindAt.2.1 16 = .ok (.iload_n 1, 1) := by decide +kernel
theorem d_TR_kindAt_17 : decode M_TR_kindAt.2.1 17 = .ok (.iaload, 1) := by decide +kernel
theorem d_TR_kindAt_18 : decode M_TR_kindAt.2.1 18 = .ok (.goto 4, 3) := by decide +kernel
theorem d_TR_kindAt_21 : decode M_TR_kindAt.2.1 21 = .ok (.iconst 0, 1) := by decide +kernel
theorem d_TR_kindAt_22 : decode M_TR_kindAt.2.1 22 = .ok (.ireturn, 1) := by decide +kernel
theorem d_TR_valueAt_0 : decode M_TR_valueAt.2.1 0 = .ok (.iload_n 1, 1) := by decide +kernel
theorem d_TR_valueAt_1 : decode M_TR_valueAt.2.1 1 = .ok (.ifCond .lt 20, 3) := by decide +kernel
theorem d_TR_valueAt_4 : decode M_TR_valueAt.2.1 4 = .ok (.iload_n 1, 1) := by decide +kernel
theorem d_TR_valueAt_5 : decode M_TR_valueAt.2.1 5 = .ok (.aload_n 0, 1) := by decide +kernel
theorem d_TR_valueAt_6 : decode M_TR_valueAt.2.1 6 = .ok (.getfield 28, 3) := by decide +kernel
theorem d_TR_valueAt_9 : decode M_TR_valueAt.2.1 9 = .ok (.if_icmp .ge 12, 3) := by decide +kernel
theorem d_TR_valueAt_12 : decode M_TR_valueAt.2.1 12 = .ok (.aload_n 0, 1) := by decide +kernel
theorem d_TR_valueAt_13 : decode M_TR_valueAt.2.1 13 = .ok (.getfield 22, 3) := by decide +kernel
theorem d_TR_valueAt_16 : decode M_TR_valueAt.2.1 16 = .ok (.iload_n 1, 1) := by decide +kernel
theorem d_TR_valueAt_17 : decode M_TR_valueAt.2.1 17 = .ok (.iaload, 1) := by decide +kernel
theorem d_TR_valueAt_18 : decode M_TR_valueAt.2.1 18 = .ok (.goto 4, 3) := by decide +kernel
theorem d_TR_valueAt_21 : decode M_TR_valueAt.2.1 21 = .ok (.iconst (-1), 1) := by decide +kernel
theorem d_TR_valueAt_22 : decode M_TR_valueAt.2.1 22 = .ok (.ireturn, 1) := by decide +kernel
theorem d_TR_beginsSet_0 : decode M_TR_beginsSet.2.1 0 = .ok (.aload_n 0, 1) := by decide +kernel
theorem d_TR_beginsSet_1 : decode M_TR_beginsSet.2.1 1 = .ok (.iload_n 1, 1) := by decide +kernel
theorem d_TR_beginsSet_2 : decode M_TR_beginsSet.2.1 2 = .ok (.invokevirtual 32, 3) := by decide +kernel
theorem d_TR_beginsSet_5 : decode M_TR_beginsSet.2.1 5 = .ok (.istore_n 2, 1) := by decide +kernel
theorem d_TR_beginsSet_6 : decode M_TR_beginsSet.2.1 6 = .ok (.iload_n 2, 1) := by decide +kernel
theorem d_TR_beginsSet_7 : decode M_TR_beginsSet.2.1 7 = .ok (.iconst 4, 1) := by decide +kernel
theorem d_TR_beginsSet_8 : decode M_TR_beginsSet.2.1 8 = .ok (.if_icmp .eq 18, 3) := by decide +kernel
theorem d_TR_beginsSet_11 : decode M_TR_beginsSet.2.1 11 = .ok (.iload_n 2, 1) := by decide +kernel
theorem d_TR_beginsSet_12 : decode M_TR_beginsSet.2.1 12 = .ok (.iconst 5, 1) := by decide +kernel
theorem d_TR_beginsSet_13 : decode M_TR_beginsSet.2.1 13 = .ok (.if_icmp .eq 13, 3) := by decide +kernel
theorem d_TR_beginsSet_16 : decode M_TR_beginsSet.2.1 16 = .ok (.iload_n 2, 1) := by decide +kernel
theorem d_TR_beginsSet_17 : decode M_TR_beginsSet.2.1 17 = .ok (.iconst 2, 1) := by decide +kernel
theorem d_TR_beginsSet_18 : decode M_TR_beginsSet.2.1 18 = .ok (.if_icmp .eq 8, 3) := by decide +kernel
theorem d_TR_beginsSet_21 : decode M_TR_beginsSet.2.1 21 = .ok (.iload_n 2, 1) := by decide +kernel
theorem d_TR_beginsSet_22 : decode M_TR_beginsSet.2.1 22 = .ok (.iconst 3, 1) := by decide +kernel
theorem d_TR_beginsSet_23 : decode M_TR_beginsSet.2.1 23 = .ok (.if_icmp .ne 7, 3) := by decide +kernel
theorem d_TR_beginsSet_26 : decode M_TR_beginsSet.2.1 26 = .ok (.iconst 1, 1) := by decide +kernel
theorem d_TR_beginsSet_27 : decode M_TR_beginsSet.2.1 27 = .ok (.goto 4, 3) := by decide +kernel
theorem d_TR_beginsSet_30 : decode M_TR_beginsSet.2.1 30 = .ok (.iconst 0, 1) := by decide +kernel
theorem d_TR_beginsSet_31 : decode M_TR_beginsSet.2.1 31 = .ok (.ireturn, 1) := by decide +kernel
theorem d_TR_cutText_0 : decode M_TR_cutText.2.1 0 = .ok (.aload_n 0, 1) := by decide +kernel
theorem d_TR_cutText_1 : decode M_TR_cutText.2.1 1 = .ok (.getfield 12, 3) := by decide +kernel
theorem d_TR_cutText_4 : decode M_TR_cutText.2.1 4 = .ok (.aload_n 1, 1) := by decide +kernel
theorem d_TR_cutText_5 : decode M_TR_cutText.2.1 5 = .ok (.invokevirtual 36, 3) := by decide +kernel
theorem d_TR_cutText_8 : decode M_TR_cutText.2.1 8 = .ok (.aload_n 0, 1) := by decide +kernel
theorem d_TR_cutText_9 : decode M_TR_cutText.2.1 9 = .ok (.iconst 0, 1) := by decide +kernel
theorem d_TR_cutText_10 : decode M_TR_cutText.2.1 10 = .ok (.putfield 28, 3) := by decide +kernel
theorem d_TR_cutText_13 : decode M_TR_cutText.2.1 13 = .ok (.aload_n 0, 1) := by decide +kernel
theorem d_TR_cutText_14 : decode M_TR_cutText.2.1 14 = .ok (.iconst 0, 1) := by decide +kernel
theorem d_TR_cutText_15 : decode M_TR_cutText.2.1 15 = .ok (.putfield 40, 3) := by decide +kernel
theorem d_TR_cutText_18 : decode M_TR_cutText.2.1 18 = .ok (.aload_n 0, 1) := by decide +kernel
theorem d_TR_cutText_19 : decode M_TR_cutText.2.1 19 = .ok (.getfield 12, 3) := by decide +kernel
theorem d_TR_cutText_22 : decode M_TR_cutText.2.1 22 = .ok (.iconst 0, 1) := by decide +kernel
theorem d_TR_cutText_23 : decode M_TR_cutText.2.1 23 = .ok (.invokevirtual 43, 3) := by decide +kernel
theorem d_TR_cutText_26 : decode M_TR_cutText.2.1 26 = .ok (.bipush 32, 2) := by decide +kernel
theorem d_TR_cutText_28 : decode M_TR_cutText.2.1 28 = .ok (.if_icmp .eq 24, 3) := by decide +kernel
theorem d_TR_cutText_31 : decode M_TR_cutText.2.1 31 = .ok (.aload_n 0, 1) := by decide +kernel
theorem d_TR_cutText_32 : decode M_TR_cutText.2.1 32 = .ok (.getfield 12, 3) := by decide +kernel
theorem d_TR_cutText_35 : decode M_TR_cutText.2.1 35 = .ok (.aload_n 0, 1) := by decide +kernel
theorem d_TR_cutText_36 : decode M_TR_cutText.2.1 36 = .ok (.getfield 12, 3) := by decide +kernel
theorem d_TR_cutText_39 : decode M_TR_cutText.2.1 39 = .ok (.getfield 46, 3) := by decide +kernel
theorem d_TR_cutText_42 : decode M_TR_cutText.2.1 42 = .ok (.iconst 1, 1) := by decide +kernel
theorem d_TR_cutText_43 : decode M_TR_cutText.2.1 43 = .ok (.isub, 1) := by decide +kernel
theorem d_TR_cutText_44 : decode M_TR_cutText.2.1 44 = .ok (.invokevirtual 43, 3) := by decide +kernel
theorem d_TR_cutText_47 : decode M_TR_cutText.2.1 47 = .ok (.bipush 32, 2) := by decide +kernel
theorem d_TR_cutText_49 : decode M_TR_cutText.2.1 49 = .ok (.if_icmp .ne 5, 3) := by decide +kernel
theorem d_TR_cutText_52 : decode M_TR_cutText.2.1 52 = .ok (.iconst 0, 1) := by decide +kernel
theorem d_TR_cutText_53 : decode M_TR_cutText.2.1 53 = .ok (.ireturn, 1) := by decide +kernel
theorem d_TR_cutText_54 : decode M_TR_cutText.2.1 54 = .ok (.iconst 0, 1) := by decide +kernel
theorem d_TR_cutText_55 : decode M_TR_cutText.2.1 55 = .ok (.istore_n 2, 1) := by decide +kernel
theorem d_TR_cutText_56 : decode M_TR_cutText.2.1 56 = .ok (.iload_n 2, 1) := by decide +kernel
theorem d_TR_cutText_57 : decode M_TR_cutText.2.1 57 = .ok (.bipush 60, 2) := by decide +kernel
theorem d_TR_cutText_59 : decode M_TR_cutText.2.1 59 = .ok (.if_icmp .ge 32, 3) := by decide +kernel
theorem d_TR_cutText_62 : decode M_TR_cutText.2.1 62 = .ok (.aload_n 0, 1) := by decide +kernel
theorem d_TR_cutText_63 : decode M_TR_cutText.2.1 63 = .ok (.getfield 40, 3) := by decide +kernel
theorem d_TR_cutText_66 : decode M_TR_cutText.2.1 66 = .ok (.aload_n 0, 1) := by decide +kernel
theorem d_TR_cutText_67 : decode M_TR_cutText.2.1 67 = .ok (.getfield 12, 3) := by decide +kernel
theorem d_TR_cutText_70 : decode M_TR_cutText.2.1 70 = .ok (.getfield 46, 3) := by decide +kernel
theorem d_TR_cutText_73 : decode M_TR_cutText.2.1 73 = .ok (.if_icmp .ge 18, 3) := by decide +kernel
theorem d_TR_cutText_76 : decode M_TR_cutText.2.1 76 = .ok (.aload_n 0, 1) := by decide +kernel
theorem d_TR_cutText_77 : decode M_TR_cutText.2.1 77 = .ok (.invokevirtual 47, 3) := by decide +kernel
theorem d_TR_cutText_80 : decode M_TR_cutText.2.1 80 = .ok (.ifCond .ne 5, 3) := by decide +kernel
theorem d_TR_cutText_83 : decode M_TR_cutText.2.1 83 = .ok (.iconst 0, 1) := by decide +kernel
theorem d_TR_cutText_84 : decode M_TR_cutText.2.1 84 = .ok (.ireturn, 1) := by decide +kernel
theorem d_TR_cutText_85 : decode M_TR_cutText.2.1 85 = .ok (.iinc 2 1, 3) := by decide +kernel
theorem d_TR_cutText_88 : decode M_TR_cutText.2.1 88 = .ok (.goto (-32), 3) := by decide +kernel
theorem d_TR_cutText_91 : decode M_TR_cutText.2.1 91 = .ok (.iconst 1, 1) := by decide +kernel
theorem d_TR_cutText_92 : decode M_TR_cutText.2.1 92 = .ok (.ireturn, 1) := by decide +kernel
theorem d_TR_takeToken_0 : decode M_TR_takeToken.2.1 0 = .ok (.aload_n 0, 1) := by decide +kernel
theorem d_TR_takeToken_1 : decode M_TR_takeToken.2.1 1 = .ok (.getfield 12, 3) := by decide +kernel
theorem d_TR_takeToken_4 : decode M_TR_takeToken.2.1 4 = .ok (.aload_n 0, 1) := by decide +kernel
theorem d_TR_takeToken_5 : decode M_TR_takeToken.2.1 5 = .ok (.getfield 40, 3) := by decide +kernel
theorem d_TR_takeToken_8 : decode M_TR_takeToken.2.1 8 = .ok (.invokevirtual 43, 3) := by decide +kernel
theorem d_TR_takeToken_11 : decode M_TR_takeToken.2.1 11 = .ok (.istore_n 1, 1) := by decide +kernel
theorem d_TR_takeToken_12 : decode M_TR_takeToken.2.1 12 = .ok (.iload_n 1, 1) := by decide +kernel
theorem d_TR_takeToken_13 : decode M_TR_takeToken.2.1 13 = .ok (.lookupswitch 180 #[(32, 83), (38, 136), (45, 127), (91, 95), (92, 147), (93, 100), (94, 145), (123, 109), (125, 118)], 83) := by decide +kernel
theorem d_TR_takeToken_96 : decode M_TR_takeToken.2.1 96 = .ok (.aload_n 0, 1) := by decide +kernel
theorem d_TR_takeToken_97 : decode M_TR_takeToken.2.1 97 = .ok (.dup, 1) := by decide +kernel
theorem d_TR_takeToken_98 : decode M_TR_takeToken.2.1 98 = .ok (.getfield 40, 3) := by decide +kernel
theorem d_TR_takeToken_101 : decode M_TR_takeToken.2.1 101 = .ok (.iconst 1, 1) := by decide +kernel
theorem d_TR_takeToken_102 : decode M_TR_takeToken.2.1 102 = .ok (.iadd, 1) := by decide +kernel
theorem d_TR_takeToken_103 : decode M_TR_takeToken.2.1 103 = .ok (.putfield 40, 3) := by decide +kernel
theorem d_TR_takeToken_106 : decode M_TR_takeToken.2.1 106 = .ok (.iconst 1, 1) := by decide +kernel
theorem d_TR_takeToken_107 : decode M_TR_takeToken.2.1 107 = .ok (.ireturn, 1) := by decide +kernel
theorem d_TR_takeToken_108 : decode M_TR_takeToken.2.1 108 = .ok (.aload_n 0, 1) := by decide +kernel
theorem d_TR_takeToken_109 : decode M_TR_takeToken.2.1 109 = .ok (.invokevirtual 51, 3) := by decide +kernel
theorem d_TR_takeToken_112 : decode M_TR_takeToken.2.1 112 = .ok (.ireturn, 1) := by decide +kernel
theorem d_TR_takeToken_113 : decode M_TR_takeToken.2.1 113 = .ok (.aload_n 0, 1) := by decide +kernel
theorem d_TR_takeToken_114 : decode M_TR_takeToken.2.1 114 = .ok (.bipush 6, 2) := by decide +kernel
theorem d_TR_takeToken_116 : decode M_TR_takeToken.2.1 116 = .ok (.iload_n 1, 1) := by decide +kernel
theorem d_TR_takeToken_117 : decode M_TR_takeToken.2.1 117 = .ok (.iconst 1, 1) := by decide +kernel
theorem d_TR_takeToken_118 : decode M_TR_takeToken.2.1 118 = .ok (.invokevirtual 54, 3) := by decide +kernel
theorem d_TR_takeToken_121 : decode M_TR_takeToken.2.1 121 = .ok (.ireturn, 1) := by decide +kernel
theorem d_TR_takeToken_122 : decode M_TR_takeToken.2.1 122 = .ok (.aload_n 0, 1) := by decide +kernel
theorem d_TR_takeToken_123 : decode M_TR_takeToken.2.1 123 = .ok (.bipush 7, 2) := by decide +kernel
theorem d_TR_takeToken_125 : decode M_TR_takeToken.2.1 125 = .ok (.iload_n 1, 1) := by decide +kernel
theorem d_TR_takeToken_126 : decode M_TR_takeToken.2.1 126 = .ok (.iconst 1, 1) := by decide +kernel
theorem d_TR_takeToken_127 : decode M_TR_takeToken.2.1 127 = .ok (.invokevirtual 54, 3) := by decide +kernel
theorem d_TR_takeToken_130 : decode M_TR_takeToken.2.1 130 = .ok (.ireturn, 1) := by decide +kernel
theorem d_TR_takeToken_131 : decode M_TR_takeToken.2.1 131 = .ok (.aload_n 0, 1) := by decide +kernel
theorem d_TR_takeToken_132 : decode M_TR_takeToken.2.1 132 = .ok (.bipush 8, 2) := by decide +kernel
theorem d_TR_takeToken_134 : decode M_TR_takeToken.2.1 134 = .ok (.iload_n 1, 1) := by decide +kernel
theorem d_TR_takeToken_135 : decode M_TR_takeToken.2.1 135 = .ok (.iconst 1, 1) := by decide +kernel
theorem d_TR_takeToken_136 : decode M_TR_takeToken.2.1 136 = .ok (.invokevirtual 54, 3) := by decide +kernel
theorem d_TR_takeToken_139 : decode M_TR_takeToken.2.1 139 = .ok (.ireturn, 1) := by decide +kernel
theorem d_TR_takeToken_140 : decode M_TR_takeToken.2.1 140 = .ok (.aload_n 0, 1) := by decide +kernel
theorem d_TR_takeToken_141 : decode M_TR_takeToken.2.1 141 = .ok (.bipush 9, 2) := by decide +kernel
theorem d_TR_takeToken_143 : decode M_TR_takeToken.2.1 143 = .ok (.iload_n 1, 1) := by decide +kernel
theorem d_TR_takeToken_144 : decode M_TR_takeToken.2.1 144 = .ok (.iconst 1, 1) := by decide +kernel
theorem d_TR_takeToken_145 : decode M_TR_takeToken.2.1 145 = .ok (.invokevirtual 54, 3) := by decide +kernel
theorem d_TR_takeToken_148 : decode M_TR_takeToken.2.1 148 = .ok (.ireturn, 1) := by decide +kernel
theorem d_TR_takeToken_149 : decode M_TR_takeToken.2.1 149 = .ok (.aload_n 0, 1) := by decide +kernel
theorem d_TR_takeToken_150 : decode M_TR_takeToken.2.1 150 = .ok (.bipush 10, 2) := by decide +kernel
theorem d_TR_takeToken_152 : decode M_TR_takeToken.2.1 152 = .ok (.iload_n 1, 1) := by decide +kernel
theorem d_TR_takeToken_153 : decode M_TR_takeToken.2.1 153 = .ok (.iconst 1, 1) := by decide +kernel
theorem d_TR_takeToken_154 : decode M_TR_takeToken.2.1 154 = .ok (.invokevirtual 54, 3) := by decide +kernel
theorem d_TR_takeToken_157 : decode M_TR_takeToken.2.1 157 = .ok (.ireturn, 1) := by decide +kernel
theorem d_TR_takeToken_158 : decode M_TR_takeToken.2.1 158 = .ok (.iconst 0, 1) := by decide +kernel
theorem d_TR_takeToken_159 : decode M_TR_takeToken.2.1 159 = .ok (.ireturn, 1) := by decide +kernel
theorem d_TR_takeToken_160 : decode M_TR_takeToken.2.1 160 = .ok (.aload_n 0, 1) := by decide +kernel
theorem d_TR_takeToken_161 : decode M_TR_takeToken.2.1 161 = .ok (.getfield 12, 3) := by decide +kernel
theorem d_TR_takeToken_164 : decode M_TR_takeToken.2.1 164 = .ok (.aload_n 0, 1) := by decide +kernel
theorem d_TR_takeToken_165 : decode M_TR_takeToken.2.1 165 = .ok (.getfield 40, 3) := by decide +kernel
theorem d_TR_takeToken_168 : decode M_TR_takeToken.2.1 168 = .ok (.iconst 1, 1) := by decide +kernel
theorem d_TR_takeToken_169 : decode M_TR_takeToken.2.1 169 = .ok (.iadd, 1) := by decide +kernel
theorem d_TR_takeToken_170 : decode M_TR_takeToken.2.1 170 = .ok (.invokevirtual 43, 3) := by decide +kernel
theorem d_TR_takeToken_173 : decode M_TR_takeToken.2.1 173 = .ok (.bipush 32, 2) := by decide +kernel
theorem d_TR_takeToken_175 : decode M_TR_takeToken.2.1 175 = .ok (.ior, 1) := by decide +kernel
theorem d_TR_takeToken_176 : decode M_TR_takeToken.2.1 176 = .ok (.bipush 112, 2) := by decide +kernel
theorem d_TR_takeToken_178 : decode M_TR_takeToken.2.1 178 = .ok (.if_icmp .ne 10, 3) := by decide +kernel
theorem d_TR_takeToken_181 : decode M_TR_takeToken.2.1 181 = .ok (.aload_n 0, 1) := by decide +kernel
theorem d_TR_takeToken_182 : decode M_TR_takeToken.2.1 182 = .ok (.invokevirtual 58, 3) := by decide +kernel
theorem d_TR_takeToken_185 : decode M_TR_takeToken.2.1 185 = .ok (.goto 7, 3) := by decide +kernel
theorem d_TR_takeToken_188 : decode M_TR_takeToken.2.1 188 = .ok (.aload_n 0, 1) := by decide +kernel
theorem d_TR_takeToken_189 : decode M_TR_takeToken.2.1 189 = .ok (.invokevirtual 61, 3) := by decide +kernel
theorem d_TR_takeToken_192 : decode M_TR_takeToken.2.1 192 = .ok (.ireturn, 1) := by decide +kernel
theorem d_TR_takeToken_193 : decode M_TR_takeToken.2.1 193 = .ok (.aload_n 0, 1) := by decide +kernel
theorem d_TR_takeToken_194 : decode M_TR_takeToken.2.1 194 = .ok (.iconst 1, 1) := by decide +kernel
theorem d_TR_takeToken_195 : decode M_TR_takeToken.2.1 195 = .ok (.iload_n 1, 1) := by decide +kernel
theorem d_TR_takeToken_196 : decode M_TR_takeToken.2.1 196 = .ok (.iconst 1, 1) := by decide +kernel
theorem d_TR_takeToken_197 : decode M_TR_takeToken.2.1 197 = .ok (.invokevirtual 54, 3) := by decide +kernel
theorem d_TR_takeToken_200 : decode M_TR_takeToken.2.1 200 = .ok (.ireturn, 1) := by decide +kernel
theorem d_TR_takeOpening_0 : decode M_TR_takeOpening.2.1 0 = .ok (.aload_n 0, 1) := by decide +kernel
theorem d_TR_takeOpening_1 : decode M_TR_takeOpening.2.1 1 = .ok (.getfield 12, 3) := by decide +kernel
theorem d_TR_takeOpening_4 : decode M_TR_takeOpening.2.1 4 = .ok (.aload_n 0, 1) := by decide +kernel
theorem d_TR_takeOpening_5 : decode M_TR_takeOpening.2.1 5 = .ok (.getfield 40, 3) := by decide +kernel
theorem d_TR_takeOpening_8 : decode M_TR_takeOpening.2.1 8 = .ok (.iconst 1, 1) := by decide +kernel
theorem d_TR_takeOpening_9 : decode M_TR_takeOpening.2.1 9 = .ok (.iadd, 1) := by decide +kernel
theorem d_TR_takeOpening_10 : decode M_TR_takeOpening.2.1 10 = .ok (.invokevirtual 43, 3) := by decide +kernel
theorem d_TR_takeOpening_13 : decode M_TR_takeOpening.2.1 13 = .ok (.istore_n 1, 1) := by decide +kernel
theorem d_TR_takeOpening_14 : decode M_TR_takeOpening.2.1 14 = .ok (.iload_n 1, 1) := by decide +kernel
theorem d_TR_takeOpening_15 : decode M_TR_takeOpening.2.1 15 = .ok (.bipush 94, 2) := by decide +kernel
theorem d_TR_takeOpening_17 : decode M_TR_takeOpening.2.1 17 = .ok (.if_icmp .ne 11, 3) := by decide +kernel
theorem d_TR_takeOpening_20 : decode M_TR_takeOpening.2.1 20 = .ok (.aload_n 0, 1) := by decide +kernel
theorem d_TR_takeOpening_21 : decode M_TR_takeOpening.2.1 21 = .ok (.iconst 5, 1) := by decide +kernel
theorem d_TR_takeOpening_22 : decode M_TR_takeOpening.2.1 22 = .ok (.iload_n 1, 1) := by decide +kernel
theorem d_TR_takeOpening_23 : decode M_TR_takeOpening.2.1 23 = .ok (.iconst 2, 1) := by decide +kernel
theorem d_TR_takeOpening_24 : decode M_TR_takeOpening.2.1 24 = .ok (.invokevirtual 54, 3) := by decide +kernel
theorem d_TR_takeOpening_27 : decode M_TR_takeOpening.2.1 27 = .ok (.ireturn, 1) := by decide +kernel
theorem d_TR_takeOpening_28 : decode M_TR_takeOpening.2.1 28 = .ok (.iload_n 1, 1) := by decide +kernel
theorem d_TR_takeOpening_29 : decode M_TR_takeOpening.2.1 29 = .ok (.bipush 58, 2) := by decide +kernel
theorem d_TR_takeOpening_31 : decode M_TR_takeOpening.2.1 31 = .ok (.if_icmp .eq 11, 3) := by decide +kernel
theorem d_TR_takeOpening_34 : decode M_TR_takeOpening.2.1 34 = .ok (.aload_n 0, 1) := by decide +kernel
theorem d_TR_takeOpening_35 : decode M_TR_takeOpening.2.1 35 = .ok (.iconst 4, 1) := by decide +kernel
theorem d_TR_takeOpening_36 : decode M_TR_takeOpening.2.1 36 = .ok (.iload_n 1, 1) := by decide +kernel
theorem d_TR_takeOpening_37 : decode M_TR_takeOpening.2.1 37 = .ok (.iconst 1, 1) := by decide +kernel
theorem d_TR_takeOpening_38 : decode M_TR_takeOpening.2.1 38 = .ok (.invokevirtual 54, 3) := by decide +kernel
theorem d_TR_takeOpening_41 : decode M_TR_takeOpening.2.1 41 = .ok (.ireturn, 1) := by decide +kernel
theorem d_TR_takeOpening_42 : decode M_TR_takeOpening.2.1 42 = .ok (.aload_n 0, 1) := by decide +kernel
theorem d_TR_takeOpening_43 : decode M_TR_takeOpening.2.1 43 = .ok (.getfield 12, 3) := by decide +kernel
theorem d_TR_takeOpening_46 : decode M_TR_takeOpening.2.1 46 = .ok (.aload_n 0, 1) := by decide +kernel
theorem d_TR_takeOpening_47 : decode M_TR_takeOpening.2.1 47 = .ok (.getfield 40, 3) := by decide +kernel
theorem d_TR_takeOpening_50 : decode M_TR_takeOpening.2.1 50 = .ok (.iconst 2, 1) := by decide +kernel
theorem d_TR_takeOpening_51 : decode M_TR_takeOpening.2.1 51 = .ok (.iadd, 1) := by decide +kernel
theorem d_TR_takeOpening_52 : decode M_TR_takeOpening.2.1 52 = .ok (.invokevirtual 43, 3) := by decide +kernel
theorem d_TR_takeOpening_55 : decode M_TR_takeOpening.2.1 55 = .ok (.bipush 94, 2) := by decide +kernel
theorem d_TR_takeOpening_57 : decode M_TR_takeOpening.2.1 57 = .ok (.if_icmp .ne 7, 3) := by decide +kernel
theorem d_TR_takeOpening_60 : decode M_TR_takeOpening.2.1 60 = .ok (.iconst 1, 1) := by decide +kernel
theorem d_TR_takeOpening_61 : decode M_TR_takeOpening.2.1 61 = .ok (.goto 4, 3) := by decide +kernel
theorem d_TR_takeOpening_64 : decode M_TR_takeOpening.2.1 64 = .ok (.iconst 0, 1) := by decide +kernel
theorem d_TR_takeOpening_65 : decode M_TR_takeOpening.2.1 65 = .ok (.istore_n 2, 1) := by decide +kernel
theorem d_TR_takeOpening_66 : decode M_TR_takeOpening.2.1 66 = .ok (.aload_n 0, 1) := by decide +kernel
theorem d_TR_takeOpening_67 : decode M_TR_takeOpening.2.1 67 = .ok (.aload_n 0, 1) := by decide +kernel
theorem d_TR_takeOpening_68 : decode M_TR_takeOpening.2.1 68 = .ok (.getfield 40, 3) := by decide +kernel
theorem d_TR_takeOpening_71 : decode M_TR_takeOpening.2.1 71 = .ok (.iload_n 2, 1) := by decide +kernel
theorem d_TR_takeOpening_72 : decode M_TR_takeOpening.2.1 72 = .ok (.ifCond .eq 7, 3) := by decide +kernel
theorem d_TR_takeOpening_75 : decode M_TR_takeOpening.2.1 75 = .ok (.iconst 3, 1) := by decide +kernel
theorem d_TR_takeOpening_76 : decode M_TR_takeOpening.2.1 76 = .ok (.goto 4, 3) := by decide +kernel
theorem d_TR_takeOpening_79 : decode M_TR_takeOpening.2.1 79 = .ok (.iconst 2, 1) := by decide +kernel
theorem d_TR_takeOpening_80 : decode M_TR_takeOpening.2.1 80 = .ok (.iadd, 1) := by decide +kernel
theorem d_TR_takeOpening_81 : decode M_TR_takeOpening.2.1 81 = .ok (.invokevirtual 64, 3) := by decide +kernel
theorem d_TR_takeOpening_84 : decode M_TR_takeOpening.2.1 84 = .ok (.istore_n 3, 1) := by decide +kernel
theorem d_TR_takeOpening_85 : decode M_TR_takeOpening.2.1 85 = .ok (.aload_n 0, 1) := by decide +kernel
theorem d_TR_takeOpening_86 : decode M_TR_takeOpening.2.1 86 = .ok (.getfield 12, 3) := by decide +kernel
theorem d_TR_takeOpening_89 : decode M_TR_takeOpening.2.1 89 = .ok (.iload_n 3, 1) := by decide +kernel
theorem d_TR_takeOpening_90 : decode M_TR_takeOpening.2.1 90 = .ok (.invokevirtual 43, 3) := by decide +kernel
theorem d_TR_takeOpening_93 : decode M_TR_takeOpening.2.1 93 = .ok (.bipush 58, 2) := by decide +kernel
theorem d_TR_takeOpening_95 : decode M_TR_takeOpening.2.1 95 = .ok (.if_icmp .ne 18, 3) := by decide +kernel
theorem d_TR_takeOpening_98 : decode M_TR_takeOpening.2.1 98 = .ok (.aload_n 0, 1) := by decide +kernel
theorem d_TR_takeOpening_99 : decode M_TR_takeOpening.2.1 99 = .ok (.getfield 12, 3) := by decide +kernel
theorem d_TR_takeOpening_102 : decode M_TR_takeOpening.2.1 102 = .ok (.iload_n 3, 1) := by decide +kernel
theorem d_TR_takeOpening_103 : decode M_TR_takeOpening.2.1 103 = .ok (.iconst 1, 1) := by decide +kernel
theorem d_TR_takeOpening_104 : decode M_TR_takeOpening.2.1 104 = .ok (.iadd, 1) := by decide +kernel
theorem d_TR_takeOpening_105 : decode M_TR_takeOpening.2.1 105 = .ok (.invokevirtual 43, 3) := by decide +kernel
theorem d_TR_takeOpening_108 : decode M_TR_takeOpening.2.1 108 = .ok (.bipush 93, 2) := by decide +kernel
theorem d_TR_takeOpening_110 : decode M_TR_takeOpening.2.1 110 = .ok (.if_icmp .eq 5, 3) := by decide +kernel
theorem d_TR_takeOpening_113 : decode M_TR_takeOpening.2.1 113 = .ok (.iconst 0, 1) := by decide +kernel
theorem d_TR_takeOpening_114 : decode M_TR_takeOpening.2.1 114 = .ok (.ireturn, 1) := by decide +kernel
theorem d_TR_takeOpening_115 : decode M_TR_takeOpening.2.1 115 = .ok (.aload_n 0, 1) := by decide +kernel
theorem d_TR_takeOpening_116 : decode M_TR_takeOpening.2.1 116 = .ok (.iload_n 2, 1) := by decide +kernel
theorem d_TR_takeOpening_117 : decode M_TR_takeOpening.2.1 117 = .ok (.iload_n 3, 1) := by decide +kernel
theorem d_TR_takeOpening_118 : decode M_TR_takeOpening.2.1 118 = .ok (.iconst 2, 1) := by decide +kernel
theorem d_TR_takeOpening_119 : decode M_TR_takeOpening.2.1 119 = .ok (.iadd, 1) := by decide +kernel
theorem d_TR_takeOpening_120 : decode M_TR_takeOpening.2.1 120 = .ok (.aload_n 0, 1) := by decide +kernel
theorem d_TR_takeOpening_121 : decode M_TR_takeOpening.2.1 121 = .ok (.getfield 40, 3) := by decide +kernel
theorem d_TR_takeOpening_124 : decode M_TR_takeOpening.2.1 124 = .ok (.isub, 1) := by decide +kernel
theorem d_TR_takeOpening_125 : decode M_TR_takeOpening.2.1 125 = .ok (.invokevirtual 67, 3) := by decide +kernel
theorem d_TR_takeOpening_128 : decode M_TR_takeOpening.2.1 128 = .ok (.ireturn, 1) := by decide +kernel
theorem d_TR_takeEscape_0 : decode M_TR_takeEscape.2.1 0 = .ok (.aload_n 0, 1) := by decide +kernel
theorem d_TR_takeEscape_1 : decode M_TR_takeEscape.2.1 1 = .ok (.getfield 12, 3) := by decide +kernel
theorem d_TR_takeEscape_4 : decode M_TR_takeEscape.2.1 4 = .ok (.aload_n 0, 1) := by decide +kernel
theorem d_TR_takeEscape_5 : decode M_TR_takeEscape.2.1 5 = .ok (.getfield 40, 3) := by decide +kernel
theorem d_TR_takeEscape_8 : decode M_TR_takeEscape.2.1 8 = .ok (.iconst 1, 1) := by decide +kernel
theorem d_TR_takeEscape_9 : decode M_TR_takeEscape.2.1 9 = .ok (.iadd, 1) := by decide +kernel
theorem d_TR_takeEscape_10 : decode M_TR_takeEscape.2.1 10 = .ok (.invokevirtual 43, 3) := by decide +kernel
theorem d_TR_takeEscape_13 : decode M_TR_takeEscape.2.1 13 = .ok (.istore_n 1, 1) := by decide +kernel
theorem d_TR_takeEscape_14 : decode M_TR_takeEscape.2.1 14 = .ok (.iload_n 1, 1) := by decide +kernel
theorem d_TR_takeEscape_15 : decode M_TR_takeEscape.2.1 15 = .ok (.lookupswitch 79 #[(-1, 49), (110, 51), (116, 60), (117, 69), (120, 74)], 49) := by decide +kernel
theorem d_TR_takeEscape_64 : decode M_TR_takeEscape.2.1 64 = .ok (.iconst 0, 1) := by decide +kernel
theorem d_TR_takeEscape_65 : decode M_TR_takeEscape.2.1 65 = .ok (.ireturn, 1) := by decide +kernel
theorem d_TR_takeEscape_66 : decode M_TR_takeEscape.2.1 66 = .ok (.aload_n 0, 1) := by decide +kernel
theorem d_TR_takeEscape_67 : decode M_TR_takeEscape.2.1 67 = .ok (.iconst 1, 1) := by decide +kernel
theorem d_TR_takeEscape_68 : decode M_TR_takeEscape.2.1 68 = .ok (.bipush 10, 2) := by decide +kernel
theorem d_TR_takeEscape_70 : decode M_TR_takeEscape.2.1 70 = .ok (.iconst 2, 1) := by decide +kernel
theorem d_TR_takeEscape_71 : decode M_TR_takeEscape.2.1 71 = .ok (.invokevirtual 54, 3) := by decide +kernel
theorem d_TR_takeEscape_74 : decode M_TR_takeEscape.2.1 74 = .ok (.ireturn, 1) := by decide +kernel
theorem d_TR_takeEscape_75 : decode M_TR_takeEscape.2.1 75 = .ok (.aload_n 0, 1) := by decide +kernel
theorem d_TR_takeEscape_76 : decode M_TR_takeEscape.2.1 76 = .ok (.iconst 1, 1) := by decide +kernel
theorem d_TR_takeEscape_77 : decode M_TR_takeEscape.2.1 77 = .ok (.bipush 9, 2) := by decide +kernel
theorem d_TR_takeEscape_79 : decode M_TR_takeEscape.2.1 79 = .ok (.iconst 2, 1) := by decide +kernel
theorem d_TR_takeEscape_80 : decode M_TR_takeEscape.2.1 80 = .ok (.invokevirtual 54, 3) := by decide +kernel
theorem d_TR_takeEscape_83 : decode M_TR_takeEscape.2.1 83 = .ok (.ireturn, 1) := by decide +kernel
theorem d_TR_takeEscape_84 : decode M_TR_takeEscape.2.1 84 = .ok (.aload_n 0, 1) := by decide +kernel
theorem d_TR_takeEscape_85 : decode M_TR_takeEscape.2.1 85 = .ok (.invokevirtual 71, 3) := by decide +kernel
theorem d_TR_takeEscape_88 : decode M_TR_takeEscape.2.1 88 = .ok (.ireturn, 1) := by decide +kernel
theorem d_TR_takeEscape_89 : decode M_TR_takeEscape.2.1 89 = .ok (.aload_n 0, 1) := by decide +kernel
theorem d_TR_takeEscape_90 : decode M_TR_takeEscape.2.1 90 = .ok (.invokevirtual 74, 3) := by decide +kernel
theorem d_TR_takeEscape_93 : decode M_TR_takeEscape.2.1 93 = .ok (.ireturn, 1) := by decide +kernel
theorem d_TR_takeEscape_94 : decode M_TR_takeEscape.2.1 94 = .ok (.iload_n 1, 1) := by decide +kernel
theorem d_TR_takeEscape_95 : decode M_TR_takeEscape.2.1 95 = .ok (.invokestatic 77, 3) := by decide +kernel
theorem d_TR_takeEscape_98 : decode M_TR_takeEscape.2.1 98 = .ok (.ifCond .ne 17, 3) := by decide +kernel
theorem d_TR_takeEscape_101 : decode M_TR_takeEscape.2.1 101 = .ok (.aload_n 0, 1) := by decide +kernel
theorem d_TR_takeEscape_102 : decode M_TR_takeEscape.2.1 102 = .ok (.iconst 1, 1) := by decide +kernel
theorem d_TR_takeEscape_103 : decode M_TR_takeEscape.2.1 103 = .ok (.iload_n 1, 1) := by decide +kernel
theorem d_TR_takeEscape_104 : decode M_TR_takeEscape.2.1 104 = .ok (.iconst 2, 1) := by decide +kernel
theorem d_TR_takeEscape_105 : decode M_TR_takeEscape.2.1 105 = .ok (.invokevirtual 54, 3) := by decide +kernel
theorem d_TR_takeEscape_108 : decode M_TR_takeEscape.2.1 108 = .ok (.ifCond .eq 7, 3) := by decide +kernel
theorem d_TR_takeEscape_111 : decode M_TR_takeEscape.2.1 111 = .ok (.iconst 1, 1) := by decide +kernel
theorem d_TR_takeEscape_112 : decode M_TR_takeEscape.2.1 112 = .ok (.goto 4, 3) := by decide +kernel
theorem d_TR_takeEscape_115 : decode M_TR_takeEscape.2.1 115 = .ok (.iconst 0, 1) := by decide +kernel
theorem d_TR_takeEscape_116 : decode M_TR_takeEscape.2.1 116 = .ok (.ireturn, 1) := by decide +kernel
theorem d_TR_takeFourDigits_0 : decode M_TR_takeFourDigits.2.1 0 = .ok (.aload_n 0, 1) := by decide +kernel
theorem d_TR_takeFourDigits_1 : decode M_TR_takeFourDigits.2.1 1 = .ok (.getfield 40, 3) := by decide +kernel
theorem d_TR_takeFourDigits_4 : decode M_TR_takeFourDigits.2.1 4 = .ok (.iconst 2, 1) := by decide +kernel
theorem d_TR_takeFourDigits_5 : decode M_TR_takeFourDigits.2.1 5 = .ok (.iadd, 1) := by decide +kernel
theorem d_TR_takeFourDigits_6 : decode M_TR_takeFourDigits.2.1 6 = .ok (.istore_n 1, 1) := by decide +kernel
theorem d_TR_takeFourDigits_7 : decode M_TR_takeFourDigits.2.1 7 = .ok (.aload_n 0, 1) := by decide +kernel
theorem d_TR_takeFourDigits_8 : decode M_TR_takeFourDigits.2.1 8 = .ok (.iload_n 1, 1) := by decide +kernel
theorem d_TR_takeFourDigits_9 : decode M_TR_takeFourDigits.2.1 9 = .ok (.iconst 4, 1) := by decide +kernel
theorem d_TR_takeFourDigits_10 : decode M_TR_takeFourDigits.2.1 10 = .ok (.invokevirtual 81, 3) := by decide +kernel
theorem d_TR_takeFourDigits_13 : decode M_TR_takeFourDigits.2.1 13 = .ok (.iconst 4, 1) := by decide +kernel
theorem d_TR_takeFourDigits_14 : decode M_TR_takeFourDigits.2.1 14 = .ok (.if_icmp .ne 23, 3) := by decide +kernel
theorem d_TR_takeFourDigits_17 : decode M_TR_takeFourDigits.2.1 17 = .ok (.aload_n 0, 1) := by decide +kernel
theorem d_TR_takeFourDigits_18 : decode M_TR_takeFourDigits.2.1 18 = .ok (.iconst 1, 1) := by decide +kernel
theorem d_TR_takeFourDigits_19 : decode M_TR_takeFourDigits.2.1 19 = .ok (.aload_n 0, 1) := by decide +kernel
theorem d_TR_takeFourDigits_20 : decode M_TR_takeFourDigits.2.1 20 = .ok (.iload_n 1, 1) := by decide +kernel
theorem d_TR_takeFourDigits_21 : decode M_TR_takeFourDigits.2.1 21 = .ok (.iconst 4, 1) := by decide +kernel
theorem d_TR_takeFourDigits_22 : decode M_TR_takeFourDigits.2.1 22 = .ok (.invokevirtual 85, 3) := by decide +kernel
theorem d_TR_takeFourDigits_25 : decode M_TR_takeFourDigits.2.1 25 = .ok (.bipush 6, 2) := by decide +kernel
theorem d_TR_takeFourDigits_27 : decode M_TR_takeFourDigits.2.1 27 = .ok (.invokevirtual 54, 3) := by decide +kernel
theorem d_TR_takeFourDigits_30 : decode M_TR_takeFourDigits.2.1 30 = .ok (.ifCond .eq 7, 3) := by decide +kernel
theorem d_TR_takeFourDigits_33 : decode M_TR_takeFourDigits.2.1 33 = .ok (.iconst 1, 1) := by decide +kernel
theorem d_TR_takeFourDigits_34 : decode M_TR_takeFourDigits.2.1 34 = .ok (.goto 4, 3) := by decide +kernel
theorem d_TR_takeFourDigits_37 : decode M_TR_takeFourDigits.2.1 37 = .ok (.iconst 0, 1) := by decide +kernel
theorem d_TR_takeFourDigits_38 : decode M_TR_takeFourDigits.2.1 38 = .ok (.ireturn, 1) := by decide +kernel
theorem d_TR_takeBracedDigits_0 : decode M_TR_takeBracedDigits.2.1 0 = .ok (.aload_n 0, 1) := by decide +kernel
theorem d_TR_takeBracedDigits_1 : decode M_TR_takeBracedDigits.2.1 1 = .ok (.getfield 40, 3) := by decide +kernel
theorem d_TR_takeBracedDigits_4 : decode M_TR_takeBracedDigits.2.1 4 = .ok (.iconst 3, 1) := by decide +kernel
theorem d_TR_takeBracedDigits_5 : decode M_TR_takeBracedDigits.2.1 5 = .ok (.iadd, 1) := by decide +kernel
theorem d_TR_takeBracedDigits_6 : decode M_TR_takeBracedDigits.2.1 6 = .ok (.istore_n 1, 1) := by decide +kernel
theorem d_TR_takeBracedDigits_7 : decode M_TR_takeBracedDigits.2.1 7 = .ok (.aload_n 0, 1) := by decide +kernel
theorem d_TR_takeBracedDigits_8 : decode M_TR_takeBracedDigits.2.1 8 = .ok (.iload_n 1, 1) := by decide +kernel
theorem d_TR_takeBracedDigits_9 : decode M_TR_takeBracedDigits.2.1 9 = .ok (.bipush 6, 2) := by decide +kernel
theorem d_TR_takeBracedDigits_11 : decode M_TR_takeBracedDigits.2.1 11 = .ok (.invokevirtual 81, 3) := by decide +kernel
theorem d_TR_takeBracedDigits_14 : decode M_TR_takeBracedDigits.2.1 14 = .ok (.istore_n 2, 1) := by decide +kernel
theorem d_TR_takeBracedDigits_15 : decode M_TR_takeBracedDigits.2.1 15 = .ok (.aload_n 0, 1) := by decide +kernel
theorem d_TR_takeBracedDigits_16 : decode M_TR_takeBracedDigits.2.1 16 = .ok (.getfield 12, 3) := by decide +kernel
theorem d_TR_takeBracedDigits_19 : decode M_TR_takeBracedDigits.2.1 19 = .ok (.iload_n 1, 1) := by decide +kernel
theorem d_TR_takeBracedDigits_20 : decode M_TR_takeBracedDigits.2.1 20 = .ok (.iconst 1, 1) := by decide +kernel
theorem d_TR_takeBracedDigits_21 : decode M_TR_takeBracedDigits.2.1 21 = .ok (.isub, 1) := by decide +kernel
theorem d_TR_takeBracedDigits_22 : decode M_TR_takeBracedDigits.2.1 22 = .ok (.invokevirtual 43, 3) := by decide +kernel
theorem d_TR_takeBracedDigits_25 : decode M_TR_takeBracedDigits.2.1 25 = .ok (.bipush 123, 2) := by decide +kernel
theorem d_TR_takeBracedDigits_27 : decode M_TR_takeBracedDigits.2.1 27 = .ok (.if_icmp .ne 22, 3) := by decide +kernel
theorem d_TR_takeBracedDigits_30 : decode M_TR_takeBracedDigits.2.1 30 = .ok (.iload_n 2, 1) := by decide +kernel
theorem d_TR_takeBracedDigits_31 : decode M_TR_takeBracedDigits.2.1 31 = .ok (.ifCond .eq 18, 3) := by decide +kernel
theorem d_TR_takeBracedDigits_34 : decode M_TR_takeBracedDigits.2.1 34 = .ok (.aload_n 0, 1) := by decide +kernel
theorem d_TR_takeBracedDigits_35 : decode M_TR_takeBracedDigits.2.1 35 = .ok (.getfield 12, 3) := by decide +kernel
theorem d_TR_takeBracedDigits_38 : decode M_TR_takeBracedDigits.2.1 38 = .ok (.iload_n 1, 1) := by decide +kernel
theorem d_TR_takeBracedDigits_39 : decode M_TR_takeBracedDigits.2.1 39 = .ok (.iload_n 2, 1) := by decide +kernel
theorem d_TR_takeBracedDigits_40 : decode M_TR_takeBracedDigits.2.1 40 = .ok (.iadd, 1) := by decide +kernel
theorem d_TR_takeBracedDigits_41 : decode M_TR_takeBracedDigits.2.1 41 = .ok (.invokevirtual 43, 3) := by decide +kernel
theorem d_TR_takeBracedDigits_44 : decode M_TR_takeBracedDigits.2.1 44 = .ok (.bipush 125, 2) := by decide +kernel
theorem d_TR_takeBracedDigits_46 : decode M_TR_takeBracedDigits.2.1 46 = .ok (.if_icmp .eq 5, 3) := by decide +kernel
theorem d_TR_takeBracedDigits_49 : decode M_TR_takeBracedDigits.2.1 49 = .ok (.iconst 0, 1) := by decide +kernel
theorem d_TR_takeBracedDigits_50 : decode M_TR_takeBracedDigits.2.1 50 = .ok (.ireturn, 1) := by decide +kernel
theorem d_TR_takeBracedDigits_51 : decode M_TR_takeBracedDigits.2.1 51 = .ok (.aload_n 0, 1) := by decide +kernel
theorem d_TR_takeBracedDigits_52 : decode M_TR_takeBracedDigits.2.1 52 = .ok (.iload_n 1, 1) := by decide +kernel
theorem d_TR_takeBracedDigits_53 : decode M_TR_takeBracedDigits.2.1 53 = .ok (.iload_n 2, 1) := by decide +kernel
theorem d_TR_takeBracedDigits_54 : decode M_TR_takeBracedDigits.2.1 54 = .ok (.invokevirtual 85, 3) := by decide +kernel
theorem d_TR_takeBracedDigits_57 : decode M_TR_takeBracedDigits.2.1 57 = .ok (.istore_n 3, 1) := by decide +kernel
theorem d_TR_takeBracedDigits_58 : decode M_TR_takeBracedDigits.2.1 58 = .ok (.iload_n 3, 1) := by decide +kernel
theorem d_TR_takeBracedDigits_59 : decode M_TR_takeBracedDigits.2.1 59 = .ok (.invokestatic 88, 3) := by decide +kernel
theorem d_TR_takeBracedDigits_62 : decode M_TR_takeBracedDigits.2.1 62 = .ok (.ifCond .eq 19, 3) := by decide +kernel
theorem d_TR_takeBracedDigits_65 : decode M_TR_takeBracedDigits.2.1 65 = .ok (.aload_n 0, 1) := by decide +kernel
theorem d_TR_takeBracedDigits_66 : decode M_TR_takeBracedDigits.2.1 66 = .ok (.iconst 1, 1) := by decide +kernel
theorem d_TR_takeBracedDigits_67 : decode M_TR_takeBracedDigits.2.1 67 = .ok (.iload_n 3, 1) := by decide +kernel
theorem d_TR_takeBracedDigits_68 : decode M_TR_takeBracedDigits.2.1 68 = .ok (.iload_n 2, 1) := by decide +kernel
theorem d_TR_takeBracedDigits_69 : decode M_TR_takeBracedDigits.2.1 69 = .ok (.iconst 4, 1) := by decide +kernel
theorem d_TR_takeBracedDigits_70 : decode M_TR_takeBracedDigits.2.1 70 = .ok (.iadd, 1) := by decide +kernel
theorem d_TR_takeBracedDigits_71 : decode M_TR_takeBracedDigits.2.1 71 = .ok (.invokevirtual 54, 3) := by decide +kernel
theorem d_TR_takeBracedDigits_74 : decode M_TR_takeBracedDigits.2.1 74 = .ok (.ifCond .eq 7, 3) := by decide +kernel
theorem d_TR_takeBracedDigits_77 : decode M_TR_takeBracedDigits.2.1 77 = .ok (.iconst 1, 1) := by decide +kernel
theorem d_TR_takeBracedDigits_78 : decode M_TR_takeBracedDigits.2.1 78 = .ok (.goto 4, 3) := by decide +kernel
theorem d_TR_takeBracedDigits_81 : decode M_TR_takeBracedDigits.2.1 81 = .ok (.iconst 0, 1) := by decide +kernel
theorem d_TR_takeBracedDigits_82 : decode M_TR_takeBracedDigits.2.1 82 = .ok (.ireturn, 1) := by decide +kernel
theorem d_TR_takeBracedName_0 : decode M_TR_takeBracedName.2.1 0 = .ok (.aload_n 0, 1) := by decide +kernel
theorem d_TR_takeBracedName_1 : decode M_TR_takeBracedName.2.1 1 = .ok (.aload_n 0, 1) := by decide +kernel
theorem d_TR_takeBracedName_2 : decode M_TR_takeBracedName.2.1 2 = .ok (.getfield 40, 3) := by decide +kernel
theorem d_TR_takeBracedName_5 : decode M_TR_takeBracedName.2.1 5 = .ok (.iconst 3, 1) := by decide +kernel
theorem d_TR_takeBracedName_6 : decode M_TR_takeBracedName.2.1 6 = .ok (.iadd, 1) := by decide +kernel
theorem d_TR_takeBracedName_7 : decode M_TR_takeBracedName.2.1 7 = .ok (.invokevirtual 64, 3) := by decide +kernel
theorem d_TR_takeBracedName_10 : decode M_TR_takeBracedName.2.1 10 = .ok (.istore_n 1, 1) := by decide +kernel
theorem d_TR_takeBracedName_11 : decode M_TR_takeBracedName.2.1 11 = .ok (.aload_n 0, 1) := by decide +kernel
theorem d_TR_takeBracedName_12 : decode M_TR_takeBracedName.2.1 12 = .ok (.getfield 12, 3) := by decide +kernel
theorem d_TR_takeBracedName_15 : decode M_TR_takeBracedName.2.1 15 = .ok (.aload_n 0, 1) := by decide +kernel
theorem d_TR_takeBracedName_16 : decode M_TR_takeBracedName.2.1 16 = .ok (.getfield 40, 3) := by decide +kernel
theorem d_TR_takeBracedName_19 : decode M_TR_takeBracedName.2.1 19 = .ok (.iconst 2, 1) := by decide +kernel
theorem d_TR_takeBracedName_20 : decode M_TR_takeBracedName.2.1 20 = .ok (.iadd, 1) := by decide +kernel
theorem d_TR_takeBracedName_21 : decode M_TR_takeBracedName.2.1 21 = .ok (.invokevirtual 43, 3) := by decide +kernel
theorem d_TR_takeBracedName_24 : decode M_TR_takeBracedName.2.1 24 = .ok (.bipush 123, 2) := by decide +kernel
theorem d_TR_takeBracedName_26 : decode M_TR_takeBracedName.2.1 26 = .ok (.if_icmp .ne 16, 3) := by decide +kernel
theorem d_TR_takeBracedName_29 : decode M_TR_takeBracedName.2.1 29 = .ok (.aload_n 0, 1) := by decide +kernel
theorem d_TR_takeBracedName_30 : decode M_TR_takeBracedName.2.1 30 = .ok (.getfield 12, 3) := by decide +kernel
theorem d_TR_takeBracedName_33 : decode M_TR_takeBracedName.2.1 33 = .ok (.iload_n 1, 1) := by decide +kernel
theorem d_TR_takeBracedName_34 : decode M_TR_takeBracedName.2.1 34 = .ok (.invokevirtual 43, 3) := by decide +kernel
theorem d_TR_takeBracedName_37 : decode M_TR_takeBracedName.2.1 37 = .ok (.bipush 125, 2) := by decide +kernel
theorem d_TR_takeBracedName_39 : decode M_TR_takeBracedName.2.1 39 = .ok (.if_icmp .eq 5, 3) := by decide +kernel
theorem d_TR_takeBracedName_42 : decode M_TR_takeBracedName.2.1 42 = .ok (.iconst 0, 1) := by decide +kernel
theorem d_TR_takeBracedName_43 : decode M_TR_takeBracedName.2.1 43 = .ok (.ireturn, 1) := by decide +kernel
theorem d_TR_takeBracedName_44 : decode M_TR_takeBracedName.2.1 44 = .ok (.aload_n 0, 1) := by decide +kernel
theorem d_TR_takeBracedName_45 : decode M_TR_takeBracedName.2.1 45 = .ok (.aload_n 0, 1) := by decide +kernel
theorem d_TR_takeBracedName_46 : decode M_TR_takeBracedName.2.1 46 = .ok (.getfield 12, 3) := by decide +kernel
theorem d_TR_takeBracedName_49 : decode M_TR_takeBracedName.2.1 49 = .ok (.aload_n 0, 1) := by decide +kernel
theorem d_TR_takeBracedName_50 : decode M_TR_takeBracedName.2.1 50 = .ok (.getfield 40, 3) := by decide +kernel
theorem d_TR_takeBracedName_53 : decode M_TR_takeBracedName.2.1 53 = .ok (.iconst 1, 1) := by decide +kernel
theorem d_TR_takeBracedName_54 : decode M_TR_takeBracedName.2.1 54 = .ok (.iadd, 1) := by decide +kernel
theorem d_TR_takeBracedName_55 : decode M_TR_takeBracedName.2.1 55 = .ok (.invokevirtual 43, 3) := by decide +kernel
theorem d_TR_takeBracedName_58 : decode M_TR_takeBracedName.2.1 58 = .ok (.bipush 80, 2) := by decide +kernel
theorem d_TR_takeBracedName_60 : decode M_TR_takeBracedName.2.1 60 = .ok (.if_icmp .ne 7, 3) := by decide +kernel
theorem d_TR_takeBracedName_63 : decode M_TR_takeBracedName.2.1 63 = .ok (.iconst 1, 1) := by decide +kernel
theorem d_TR_takeBracedName_64 : decode M_TR_takeBracedName.2.1 64 = .ok (.goto 4, 3) := by decide +kernel
theorem d_TR_takeBracedName_67 : decode M_TR_takeBracedName.2.1 67 = .ok (.iconst 0, 1) := by decide +kernel
theorem d_TR_takeBracedName_68 : decode M_TR_takeBracedName.2.1 68 = .ok (.iload_n 1, 1) := by decide +kernel
theorem d_TR_takeBracedName_69 : decode M_TR_takeBracedName.2.1 69 = .ok (.iconst 1, 1) := by decide +kernel
theorem d_TR_takeBracedName_70 : decode M_TR_takeBracedName.2.1 70 = .ok (.iadd, 1) := by decide +kernel
theorem d_TR_takeBracedName_71 : decode M_TR_takeBracedName.2.1 71 = .ok (.aload_n 0, 1) := by decide +kernel
theorem d_TR_takeBracedName_72 : decode M_TR_takeBracedName.2.1 72 = .ok (.getfield 40, 3) := by decide +kernel
theorem d_TR_takeBracedName_75 : decode M_TR_takeBracedName.2.1 75 = .ok (.isub, 1) := by decide +kernel
theorem d_TR_takeBracedName_76 : decode M_TR_takeBracedName.2.1 76 = .ok (.invokevirtual 67, 3) := by decide +kernel
theorem d_TR_takeBracedName_79 : decode M_TR_takeBracedName.2.1 79 = .ok (.ireturn, 1) := by decide +kernel
theorem d_TR_collectName_0 : decode M_TR_collectName.2.1 0 = .ok (.aload_n 0, 1) := by decide +kernel
theorem d_TR_collectName_1 : decode M_TR_collectName.2.1 1 = .ok (.getfield 25, 3) := by decide +kernel
theorem d_TR_collectName_4 : decode M_TR_collectName.2.1 4 = .ok (.invokevirtual 91, 3) := by decide +kernel
theorem d_TR_collectName_7 : decode M_TR_collectName.2.1 7 = .ok (.iload_n 1, 1) := by decide +kernel
theorem d_TR_collectName_8 : decode M_TR_collectName.2.1 8 = .ok (.istore_n 2, 1) := by decide +kernel
theorem d_TR_collectName_9 : decode M_TR_collectName.2.1 9 = .ok (.iload_n 2, 1) := by decide +kernel
theorem d_TR_collectName_10 : decode M_TR_collectName.2.1 10 = .ok (.aload_n 0, 1) := by decide +kernel
theorem d_TR_collectName_11 : decode M_TR_collectName.2.1 11 = .ok (.getfield 12, 3) := by decide +kernel
theorem d_TR_collectName_14 : decode M_TR_collectName.2.1 14 = .ok (.getfield 46, 3) := by decide +kernel
theorem d_TR_collectName_17 : decode M_TR_collectName.2.1 17 = .ok (.if_icmp .ge 60, 3) := by decide +kernel
theorem d_TR_collectName_20 : decode M_TR_collectName.2.1 20 = .ok (.aload_n 0, 1) := by decide +kernel
theorem d_TR_collectName_21 : decode M_TR_collectName.2.1 21 = .ok (.getfield 12, 3) := by decide +kernel
theorem d_TR_collectName_24 : decode M_TR_collectName.2.1 24 = .ok (.iload_n 2, 1) := by decide +kernel
theorem d_TR_collectName_25 : decode M_TR_collectName.2.1 25 = .ok (.invokevirtual 43, 3) := by decide +kernel
theorem d_TR_collectName_28 : decode M_TR_collectName.2.1 28 = .ok (.istore_n 3, 1) := by decide +kernel
theorem d_TR_collectName_29 : decode M_TR_collectName.2.1 29 = .ok (.iload_n 3, 1) := by decide +kernel
theorem d_TR_collectName_30 : decode M_TR_collectName.2.1 30 = .ok (.invokestatic 77, 3) := by decide +kernel
theorem d_TR_collectName_33 : decode M_TR_collectName.2.1 33 = .ok (.ifCond .eq 18, 3) := by decide +kernel
theorem d_TR_collectName_36 : decode M_TR_collectName.2.1 36 = .ok (.aload_n 0, 1) := by decide +kernel
theorem d_TR_collectName_37 : decode M_TR_collectName.2.1 37 = .ok (.getfield 25, 3) := by decide +kernel
theorem d_TR_collectName_40 : decode M_TR_collectName.2.1 40 = .ok (.iload_n 3, 1) := by decide +kernel
theorem d_TR_collectName_41 : decode M_TR_collectName.2.1 41 = .ok (.bipush 32, 2) := by decide +kernel
theorem d_TR_collectName_43 : decode M_TR_collectName.2.1 43 = .ok (.ior, 1) := by decide +kernel
theorem d_TR_collectName_44 : decode M_TR_collectName.2.1 44 = .ok (.invokevirtual 94, 3) := by decide +kernel
theorem d_TR_collectName_47 : decode M_TR_collectName.2.1 47 = .ok (.pop, 1) := by decide +kernel
theorem d_TR_collectName_48 : decode M_TR_collectName.2.1 48 = .ok (.goto 23, 3) := by decide +kernel
theorem d_TR_collectName_51 : decode M_TR_collectName.2.1 51 = .ok (.iload_n 3, 1) := by decide +kernel
theorem d_TR_collectName_52 : decode M_TR_collectName.2.1 52 = .ok (.bipush 32, 2) := by decide +kernel
theorem d_TR_collectName_54 : decode M_TR_collectName.2.1 54 = .ok (.if_icmp .eq 17, 3) := by decide +kernel
theorem d_TR_collectName_57 : decode M_TR_collectName.2.1 57 = .ok (.iload_n 3, 1) := by decide +kernel
theorem d_TR_collectName_58 : decode M_TR_collectName.2.1 58 = .ok (.bipush 95, 2) := by decide +kernel
theorem d_TR_collectName_60 : decode M_TR_collectName.2.1 60 = .ok (.if_icmp .eq 11, 3) := by decide +kernel
theorem d_TR_collectName_63 : decode M_TR_collectName.2.1 63 = .ok (.iload_n 3, 1) := by decide +kernel
theorem d_TR_collectName_64 : decode M_TR_collectName.2.1 64 = .ok (.bipush 45, 2) := by decide +kernel
theorem d_TR_collectName_66 : decode M_TR_collectName.2.1 66 = .ok (.if_icmp .eq 5, 3) := by decide +kernel
theorem d_TR_collectName_69 : decode M_TR_collectName.2.1 69 = .ok (.iload_n 2, 1) := by decide +kernel
theorem d_TR_collectName_70 : decode M_TR_collectName.2.1 70 = .ok (.ireturn, 1) := by decide +kernel
theorem d_TR_collectName_71 : decode M_TR_collectName.2.1 71 = .ok (.iinc 2 1, 3) := by decide +kernel
theorem d_TR_collectName_74 : decode M_TR_collectName.2.1 74 = .ok (.goto (-65), 3) := by decide +kernel
theorem d_TR_collectName_77 : decode M_TR_collectName.2.1 77 = .ok (.aload_n 0, 1) := by decide +kernel
theorem d_TR_collectName_78 : decode M_TR_collectName.2.1 78 = .ok (.getfield 12, 3) := by decide +kernel
theorem d_TR_collectName_81 : decode M_TR_collectName.2.1 81 = .ok (.getfield 46, 3) := by decide +kernel
theorem d_TR_collectName_84 : decode M_TR_collectName.2.1 84 = .ok (.ireturn, 1) := by decide +kernel
theorem d_TR_addProperty_0 : decode M_TR_addProperty.2.1 0 = .ok (.aload_n 0, 1) := by decide +kernel
theorem d_TR_addProperty_1 : decode M_TR_addProperty.2.1 1 = .ok (.getfield 25, 3) := by decide +kernel
theorem d_TR_addProperty_4 : decode M_TR_addProperty.2.1 4 = .ok (.invokestatic 97, 3) := by decide +kernel
theorem d_TR_addProperty_7 : decode M_TR_addProperty.2.1 7 = .ok (.istore_n 3, 1) := by decide +kernel
theorem d_TR_addProperty_8 : decode M_TR_addProperty.2.1 8 = .ok (.iload_n 3, 1) := by decide +kernel
theorem d_TR_addProperty_9 : decode M_TR_addProperty.2.1 9 = .ok (.iconst (-1), 1) := by decide +kernel
theorem d_TR_addProperty_10 : decode M_TR_addProperty.2.1 10 = .ok (.if_icmp .eq 25, 3) := by decide +kernel
theorem d_TR_addProperty_13 : decode M_TR_addProperty.2.1 13 = .ok (.aload_n 0, 1) := by decide +kernel
theorem d_TR_addProperty_14 : decode M_TR_addProperty.2.1 14 = .ok (.iload_n 1, 1) := by decide +kernel
theorem d_TR_addProperty_15 : decode M_TR_addProperty.2.1 15 = .ok (.ifCond .eq 7, 3) := by decide +kernel
theorem d_TR_addProperty_18 : decode M_TR_addProperty.2.1 18 = .ok (.iconst 3, 1) := by decide +kernel
theorem d_TR_addProperty_19 : decode M_TR_addProperty.2.1 19 = .ok (.goto 4, 3) := by decide +kernel
theorem d_TR_addProperty_22 : decode M_TR_addProperty.2.1 22 = .ok (.iconst 2, 1) := by decide +kernel
theorem d_TR_addProperty_23 : decode M_TR_addProperty.2.1 23 = .ok (.iload_n 3, 1) := by decide +kernel
theorem d_TR_addProperty_24 : decode M_TR_addProperty.2.1 24 = .ok (.iload_n 2, 1) := by decide +kernel
theorem d_TR_addProperty_25 : decode M_TR_addProperty.2.1 25 = .ok (.invokevirtual 54, 3) := by decide +kernel
theorem d_TR_addProperty_28 : decode M_TR_addProperty.2.1 28 = .ok (.ifCond .eq 7, 3) := by decide +kernel
theorem d_TR_addProperty_31 : decode M_TR_addProperty.2.1 31 = .ok (.iconst 1, 1) := by decide +kernel
theorem d_TR_addProperty_32 : decode M_TR_addProperty.2.1 32 = .ok (.goto 4, 3) := by decide +kernel
theorem d_TR_addProperty_35 : decode M_TR_addProperty.2.1 35 = .ok (.iconst 0, 1) := by decide +kernel
theorem d_TR_addProperty_36 : decode M_TR_addProperty.2.1 36 = .ok (.ireturn, 1) := by decide +kernel
theorem d_TR_add_0 : decode M_TR_add.2.1 0 = .ok (.aload_n 0, 1) := by decide +kernel
theorem d_TR_add_1 : decode M_TR_add.2.1 1 = .ok (.getfield 28, 3) := by decide +kernel
theorem d_TR_add_4 : decode M_TR_add.2.1 4 = .ok (.bipush 60, 2) := by decide +kernel
theorem d_TR_add_6 : decode M_TR_add.2.1 6 = .ok (.if_icmp .lt 5, 3) := by decide +kernel
theorem d_TR_add_9 : decode M_TR_add.2.1 9 = .ok (.iconst 0, 1) := by decide +kernel
theorem d_TR_add_10 : decode M_TR_add.2.1 10 = .ok (.ireturn, 1) := by decide +kernel
theorem d_TR_add_11 : decode M_TR_add.2.1 11 = .ok (.aload_n 0, 1) := by decide +kernel
theorem d_TR_add_12 : decode M_TR_add.2.1 12 = .ok (.getfield 18, 3) := by decide +kernel
theorem d_TR_add_15 : decode M_TR_add.2.1 15 = .ok (.aload_n 0, 1) := by decide +kernel
theorem d_TR_add_16 : decode M_TR_add.2.1 16 = .ok (.getfield 28, 3) := by decide +kernel
theorem d_TR_add_19 : decode M_TR_add.2.1 19 = .ok (.iload_n 1, 1) := by decide +kernel
theorem d_TR_add_20 : decode M_TR_add.2.1 20 = .ok (.iastore, 1) := by decide +kernel
theorem d_TR_add_21 : decode M_TR_add.2.1 21 = .ok (.aload_n 0, 1) := by decide +kernel
theorem d_TR_add_22 : decode M_TR_add.2.1 22 = .ok (.getfield 22, 3) := by decide +kernel
theorem d_TR_add_25 : decode M_TR_add.2.1 25 = .ok (.aload_n 0, 1) := by decide +kernel
theorem d_TR_add_26 : decode M_TR_add.2.1 26 = .ok (.getfield 28, 3) := by decide +kernel
theorem d_TR_add_29 : decode M_TR_add.2.1 29 = .ok (.iload_n 2, 1) := by decide +kernel
theorem d_TR_add_30 : decode M_TR_add.2.1 30 = .ok (.iastore, 1) := by decide +kernel
theorem d_TR_add_31 : decode M_TR_add.2.1 31 = .ok (.aload_n 0, 1) := by decide +kernel
theorem d_TR_add_32 : decode M_TR_add.2.1 32 = .ok (.dup, 1) := by decide +kernel
theorem d_TR_add_33 : decode M_TR_add.2.1 33 = .ok (.getfield 28, 3) := by decide +kernel
theorem d_TR_add_36 : decode M_TR_add.2.1 36 = .ok (.iconst 1, 1) := by decide +kernel
theorem d_TR_add_37 : decode M_TR_add.2.1 37 = .ok (.iadd, 1) := by decide +kernel
theorem d_TR_add_38 : decode M_TR_add.2.1 38 = .ok (.putfield 28, 3) := by decide +kernel
theorem d_TR_add_41 : decode M_TR_add.2.1 41 = .ok (.aload_n 0, 1) := by decide +kernel
theorem d_TR_add_42 : decode M_TR_add.2.1 42 = .ok (.dup, 1) := by decide +kernel
theorem d_TR_add_43 : decode M_TR_add.2.1 43 = .ok (.getfield 40, 3) := by decide +kernel
theorem d_TR_add_46 : decode M_TR_add.2.1 46 = .ok (.iload_n 3, 1) := by decide +kernel
theorem d_TR_add_47 : decode M_TR_add.2.1 47 = .ok (.iadd, 1) := by decide +kernel
theorem d_TR_add_48 : decode M_TR_add.2.1 48 = .ok (.putfield 40, 3) := by decide +kernel
theorem d_TR_add_51 : decode M_TR_add.2.1 51 = .ok (.iconst 1, 1) := by decide +kernel
theorem d_TR_add_52 : decode M_TR_add.2.1 52 = .ok (.ireturn, 1) := by decide +kernel
theorem d_TR_countHexDigits_0 : decode M_TR_countHexDigits.2.1 0 = .ok (.iconst 0, 1) := by decide +kernel
theorem d_TR_countHexDigits_1 : decode M_TR_countHexDigits.2.1 1 = .ok (.istore_n 3, 1) := by decide +kernel
theorem d_TR_countHexDigits_2 : decode M_TR_countHexDigits.2.1 2 = .ok (.iload_n 3, 1) := by decide +kernel
theorem d_TR_countHexDigits_3 : decode M_TR_countHexDigits.2.1 3 = .ok (.iload_n 2, 1) := by decide +kernel
theorem d_TR_countHexDigits_4 : decode M_TR_countHexDigits.2.1 4 = .ok (.if_icmp .ge 28, 3) := by decide +kernel
theorem d_TR_countHexDigits_7 : decode M_TR_countHexDigits.2.1 7 = .ok (.aload_n 0, 1) := by decide +kernel
theorem d_TR_countHexDigits_8 : decode M_TR_countHexDigits.2.1 8 = .ok (.getfield 12, 3) := by decide +kernel
theorem d_TR_countHexDigits_11 : decode M_TR_countHexDigits.2.1 11 = .ok (.iload_n 1, 1) := by decide +kernel
theorem d_TR_countHexDigits_12 : decode M_TR_countHexDigits.2.1 12 = .ok (.iload_n 3, 1) := by decide +kernel
theorem d_TR_countHexDigits_13 : decode M_TR_countHexDigits.2.1 13 = .ok (.iadd, 1) := by decide +kernel
theorem d_TR_countHexDigits_14 : decode M_TR_countHexDigits.2.1 14 = .ok (.invokevirtual 43, 3) := by decide +kernel
theorem d_TR_countHexDigits_17 : decode M_TR_countHexDigits.2.1 17 = .ok (.invokestatic 103, 3) := by decide +kernel
theorem d_TR_countHexDigits_20 : decode M_TR_countHexDigits.2.1 20 = .ok (.iconst (-1), 1) := by decide +kernel
theorem d_TR_countHexDigits_21 : decode M_TR_countHexDigits.2.1 21 = .ok (.if_icmp .ne 5, 3) := by decide +kernel
theorem d_TR_countHexDigits_24 : decode M_TR_countHexDigits.2.1 24 = .ok (.iload_n 3, 1) := by decide +kernel
theorem d_TR_countHexDigits_25 : decode M_TR_countHexDigits.2.1 25 = .ok (.ireturn, 1) := by decide +kernel
theorem d_TR_countHexDigits_26 : decode M_TR_countHexDigits.2.1 26 = .ok (.iinc 3 1, 3) := by decide +kernel
theorem d_TR_countHexDigits_29 : decode M_TR_countHexDigits.2.1 29 = .ok (.goto (-27), 3) := by decide +kernel
theorem d_TR_countHexDigits_32 : decode M_TR_countHexDigits.2.1 32 = .ok (.iload_n 2, 1) := by decide +kernel
theorem d_TR_countHexDigits_33 : decode M_TR_countHexDigits.2.1 33 = .ok (.ireturn, 1) := by decide +kernel
theorem d_TR_hexValue_0 : decode M_TR_hexValue.2.1 0 = .ok (.iconst 0, 1) := by decide +kernel
theorem d_TR_hexValue_1 : decode M_TR_hexValue.2.1 1 = .ok (.istore_n 3, 1) := by decide +kernel
theorem d_TR_hexValue_2 : decode M_TR_hexValue.2.1 2 = .ok (.iconst 0, 1) := by decide +kernel
theorem d_TR_hexValue_3 : decode M_TR_hexValue.2.1 3 = .ok (.istore 4, 2) := by decide +kernel
theorem d_TR_hexValue_5 : decode M_TR_hexValue.2.1 5 = .ok (.iload 4, 2) := by decide +kernel
theorem d_TR_hexValue_7 : decode M_TR_hexValue.2.1 7 = .ok (.iload_n 2, 1) := by decide +kernel
theorem d_TR_hexValue_8 : decode M_TR_hexValue.2.1 8 = .ok (.if_icmp .ge 29, 3) := by decide +kernel
theorem d_TR_hexValue_11 : decode M_TR_hexValue.2.1 11 = .ok (.iload_n 3, 1) := by decide +kernel
theorem d_TR_hexValue_12 : decode M_TR_hexValue.2.1 12 = .ok (.bipush 16, 2) := by decide +kernel
theorem d_TR_hexValue_14 : decode M_TR_hexValue.2.1 14 = .ok (.imul, 1) := by decide +kernel
theorem d_TR_hexValue_15 : decode M_TR_hexValue.2.1 15 = .ok (.aload_n 0, 1) := by decide +kernel
theorem d_TR_hexValue_16 : decode M_TR_hexValue.2.1 16 = .ok (.getfield 12, 3) := by decide +kernel
theorem d_TR_hexValue_19 : decode M_TR_hexValue.2.1 19 = .ok (.iload_n 1, 1) := by decide +kernel
theorem d_TR_hexValue_20 : decode M_TR_hexValue.2.1 20 = .ok (.iload 4, 2) := by decide +kernel
theorem d_TR_hexValue_22 : decode M_TR_hexValue.2.1 22 = .ok (.iadd, 1) := by decide +kernel
theorem d_TR_hexValue_23 : decode M_TR_hexValue.2.1 23 = .ok (.invokevirtual 43, 3) := by decide +kernel
theorem d_TR_hexValue_26 : decode M_TR_hexValue.2.1 26 = .ok (.invokestatic 103, 3) := by decide +kernel
theorem d_TR_hexValue_29 : decode M_TR_hexValue.2.1 29 = .ok (.iadd, 1) := by decide +kernel
theorem d_TR_hexValue_30 : decode M_TR_hexValue.2.1 30 = .ok (.istore_n 3, 1) := by decide +kernel
theorem d_TR_hexValue_31 : decode M_TR_hexValue.2.1 31 = .ok (.iinc 4 1, 3) := by decide +kernel
theorem d_TR_hexValue_34 : decode M_TR_hexValue.2.1 34 = .ok (.goto (-29), 3) := by decide +kernel
theorem d_TR_hexValue_37 : decode M_TR_hexValue.2.1 37 = .ok (.iload_n 3, 1) := by decide +kernel
theorem d_TR_hexValue_38 : decode M_TR_hexValue.2.1 38 = .ok (.ireturn, 1) := by decide +kernel
theorem d_TR_hexDigit_0 : decode M_TR_hexDigit.2.1 0 = .ok (.iload_n 0, 1) := by decide +kernel
theorem d_TR_hexDigit_1 : decode M_TR_hexDigit.2.1 1 = .ok (.bipush 48, 2) := by decide +kernel
theorem d_TR_hexDigit_3 : decode M_TR_hexDigit.2.1 3 = .ok (.if_icmp .lt 14, 3) := by decide +kernel
theorem d_TR_hexDigit_6 : decode M_TR_hexDigit.2.1 6 = .ok (.iload_n 0, 1) := by decide +kernel
theorem d_TR_hexDigit_7 : decode M_TR_hexDigit.2.1 7 = .ok (.bipush 57, 2) := by decide +kernel
theorem d_TR_hexDigit_9 : decode M_TR_hexDigit.2.1 9 = .ok (.if_icmp .gt 8, 3) := by decide +kernel
theorem d_TR_hexDigit_12 : decode M_TR_hexDigit.2.1 12 = .ok (.iload_n 0, 1) := by decide +kernel
theorem d_TR_hexDigit_13 : decode M_TR_hexDigit.2.1 13 = .ok (.bipush 48, 2) := by decide +kernel
theorem d_TR_hexDigit_15 : decode M_TR_hexDigit.2.1 15 = .ok (.isub, 1) := by decide +kernel
theorem d_TR_hexDigit_16 : decode M_TR_hexDigit.2.1 16 = .ok (.ireturn, 1) := by decide +kernel
theorem d_TR_hexDigit_17 : decode M_TR_hexDigit.2.1 17 = .ok (.iload_n 0, 1) := by decide +kernel
theorem d_TR_hexDigit_18 : decode M_TR_hexDigit.2.1 18 = .ok (.bipush 97, 2) := by decide +kernel
theorem d_TR_hexDigit_20 : decode M_TR_hexDigit.2.1 20 = .ok (.if_icmp .lt 17, 3) := by decide +kernel
theorem d_TR_hexDigit_23 : decode M_TR_hexDigit.2.1 23 = .ok (.iload_n 0, 1) := by decide +kernel
theorem d_TR_hexDigit_24 : decode M_TR_hexDigit.2.1 24 = .ok (.bipush 102, 2) := by decide +kernel
theorem d_TR_hexDigit_26 : decode M_TR_hexDigit.2.1 26 = .ok (.if_icmp .gt 11, 3) := by decide +kernel
theorem d_TR_hexDigit_29 : decode M_TR_hexDigit.2.1 29 = .ok (.iload_n 0, 1) := by decide +kernel
theorem d_TR_hexDigit_30 : decode M_TR_hexDigit.2.1 30 = .ok (.bipush 97, 2) := by decide +kernel
theorem d_TR_hexDigit_32 : decode M_TR_hexDigit.2.1 32 = .ok (.isub, 1) := by decide +kernel
theorem d_TR_hexDigit_33 : decode M_TR_hexDigit.2.1 33 = .ok (.bipush 10, 2) := by decide +kernel
theorem d_TR_hexDigit_35 : decode M_TR_hexDigit.2.1 35 = .ok (.iadd, 1) := by decide +kernel
theorem d_TR_hexDigit_36 : decode M_TR_hexDigit.2.1 36 = .ok (.ireturn, 1) := by decide +kernel
theorem d_TR_hexDigit_37 : decode M_TR_hexDigit.2.1 37 = .ok (.iload_n 0, 1) := by decide +kernel
theorem d_TR_hexDigit_38 : decode M_TR_hexDigit.2.1 38 = .ok (.bipush 65, 2) := by decide +kernel
theorem d_TR_hexDigit_40 : decode M_TR_hexDigit.2.1 40 = .ok (.if_icmp .lt 19, 3) := by decide +kernel
theorem d_TR_hexDigit_43 : decode M_TR_hexDigit.2.1 43 = .ok (.iload_n 0, 1) := by decide +kernel
theorem d_TR_hexDigit_44 : decode M_TR_hexDigit.2.1 44 = .ok (.bipush 70, 2) := by decide +kernel
theorem d_TR_hexDigit_46 : decode M_TR_hexDigit.2.1 46 = .ok (.if_icmp .gt 13, 3) := by decide +kernel
theorem d_TR_hexDigit_49 : decode M_TR_hexDigit.2.1 49 = .ok (.iload_n 0, 1) := by decide +kernel
theorem d_TR_hexDigit_50 : decode M_TR_hexDigit.2.1 50 = .ok (.bipush 65, 2) := by decide +kernel
theorem d_TR_hexDigit_52 : decode M_TR_hexDigit.2.1 52 = .ok (.isub, 1) := by decide +kernel
theorem d_TR_hexDigit_53 : decode M_TR_hexDigit.2.1 53 = .ok (.bipush 10, 2) := by decide +kernel
theorem d_TR_hexDigit_55 : decode M_TR_hexDigit.2.1 55 = .ok (.iadd, 1) := by decide +kernel
theorem d_TR_hexDigit_56 : decode M_TR_hexDigit.2.1 56 = .ok (.goto 4, 3) := by decide +kernel
theorem d_TR_hexDigit_59 : decode M_TR_hexDigit.2.1 59 = .ok (.iconst (-1), 1) := by decide +kernel
theorem d_TR_hexDigit_60 : decode M_TR_hexDigit.2.1 60 = .ok (.ireturn, 1) := by decide +kernel
theorem d_TR_isLetter_0 : decode M_TR_isLetter.2.1 0 = .ok (.iload_n 0, 1) := by decide +kernel
theorem d_TR_isLetter_1 : decode M_TR_isLetter.2.1 1 = .ok (.bipush 97, 2) := by decide +kernel
theorem d_TR_isLetter_3 : decode M_TR_isLetter.2.1 3 = .ok (.if_icmp .lt 9, 3) := by decide +kernel
theorem d_TR_isLetter_6 : decode M_TR_isLetter.2.1 6 = .ok (.iload_n 0, 1) := by decide +kernel
theorem d_TR_isLetter_7 : decode M_TR_isLetter.2.1 7 = .ok (.bipush 122, 2) := by decide +kernel
theorem d_TR_isLetter_9 : decode M_TR_isLetter.2.1 9 = .ok (.if_icmp .le 15, 3) := by decide +kernel
theorem d_TR_isLetter_12 : decode M_TR_isLetter.2.1 12 = .ok (.iload_n 0, 1) := by decide +kernel
theorem d_TR_isLetter_13 : decode M_TR_isLetter.2.1 13 = .ok (.bipush 65, 2) := by decide +kernel
theorem d_TR_isLetter_15 : decode M_TR_isLetter.2.1 15 = .ok (.if_icmp .lt 13, 3) := by decide +kernel
theorem d_TR_isLetter_18 : decode M_TR_isLetter.2.1 18 = .ok (.iload_n 0, 1) := by decide +kernel
theorem d_TR_isLetter_19 : decode M_TR_isLetter.2.1 19 = .ok (.bipush 90, 2) := by decide +kernel
theorem d_TR_isLetter_21 : decode M_TR_isLetter.2.1 21 = .ok (.if_icmp .gt 7, 3) := by decide +kernel
theorem d_TR_isLetter_24 : decode M_TR_isLetter.2.1 24 = .ok (.iconst 1, 1) := by decide +kernel
theorem d_TR_isLetter_25 : decode M_TR_isLetter.2.1 25 = .ok (.goto 4, 3) := by decide +kernel
theorem d_TR_isLetter_28 : decode M_TR_isLetter.2.1 28 = .ok (.iconst 0, 1) := by decide +kernel
theorem d_TR_isLetter_29 : decode M_TR_isLetter.2.1 29 = .ok (.ireturn, 1) := by decide +kernel
end
section
/-! decode rows of PR CP: written by wip/gen/mknames.py -/
theorem d_CP_init_0 : decode M_CP_init.2.1 0 = .ok (.aload_n 0, 1) := by decide +kernel
theorem d_CP_init_1 : decode M_CP_init.2.1 1 = .ok (.invokespecial 1, 3) := by decide +kernel
theorem d_CP_init_4 : decode M_CP_init.2.1 4 = .ok (.aload_n 0, 1) := by decide +kernel
theorem d_CP_init_5 : decode M_CP_init.2.1 5 = .ok (.new 7, 3) := by decide +kernel
theorem d_CP_init_8 : decode M_CP_init.2.1 8 = .ok (.dup, 1) := by decide +kernel
theorem d_CP_init_9 : decode M_CP_init.2.1 9 = .ok (.invokespecial 9, 3) := by decide +kernel
theorem d_CP_init_12 : decode M_CP_init.2.1 12 = .ok (.putfield 10, 3) := by decide +kernel
theorem d_CP_init_15 : decode M_CP_init.2.1 15 = .ok (.aload_n 0, 1) := by decide +kernel
theorem d_CP_init_16 : decode M_CP_init.2.1 16 = .ok (.iconst 3, 1) := by decide +kernel
theorem d_CP_init_17 : decode M_CP_init.2.1 17 = .ok (.anewarray 16, 3) := by decide +kernel
theorem d_CP_init_20 : decode M_CP_init.2.1 20 = .ok (.putfield 18, 3) := by decide +kernel
theorem d_CP_init_23 : decode M_CP_init.2.1 23 = .ok (.iconst 0, 1) := by decide +kernel
theorem d_CP_init_24 : decode M_CP_init.2.1 24 = .ok (.istore_n 1, 1) := by decide +kernel
theorem d_CP_init_25 : decode M_CP_init.2.1 25 = .ok (.iload_n 1, 1) := by decide +kernel
theorem d_CP_init_26 : decode M_CP_init.2.1 26 = .ok (.iconst 3, 1) := by decide +kernel
theorem d_CP_init_27 : decode M_CP_init.2.1 27 = .ok (.if_icmp .ge 22, 3) := by decide +kernel
theorem d_CP_init_30 : decode M_CP_init.2.1 30 = .ok (.aload_n 0, 1) := by decide +kernel
theorem d_CP_init_31 : decode M_CP_init.2.1 31 = .ok (.getfield 18, 3) := by decide +kernel
theorem d_CP_init_34 : decode M_CP_init.2.1 34 = .ok (.iload_n 1, 1) := by decide +kernel
theorem d_CP_init_35 : decode M_CP_init.2.1 35 = .ok (.new 16, 3) := by decide +kernel
theorem d_CP_init_38 : decode M_CP_init.2.1 38 = .ok (.dup, 1) := by decide +kernel
theorem d_CP_init_39 : decode M_CP_init.2.1 39 = .ok (.invokespecial 22, 3) := by decide +kernel
theorem d_CP_init_42 : decode M_CP_init.2.1 42 = .ok (.aastore, 1) := by decide +kernel
theorem d_CP_init_43 : decode M_CP_init.2.1 43 = .ok (.iinc 1 1, 3) := by decide +kernel
theorem d_CP_init_46 : decode M_CP_init.2.1 46 = .ok (.goto (-21), 3) := by decide +kernel
theorem d_CP_init_49 : decode M_CP_init.2.1 49 = .ok (.aload_n 0, 1) := by decide +kernel
theorem d_CP_init_50 : decode M_CP_init.2.1 50 = .ok (.new 23, 3) := by decide +kernel
theorem d_CP_init_53 : decode M_CP_init.2.1 53 = .ok (.dup, 1) := by decide +kernel
theorem d_CP_init_54 : decode M_CP_init.2.1 54 = .ok (.invokespecial 25, 3) := by decide +kernel
theorem d_CP_init_57 : decode M_CP_init.2.1 57 = .ok (.putfield 26, 3) := by decide +kernel
theorem d_CP_init_60 : decode M_CP_init.2.1 60 = .ok (.aload_n 0, 1) := by decide +kernel
theorem d_CP_init_61 : decode M_CP_init.2.1 61 = .ok (.new 30, 3) := by decide +kernel
theorem d_CP_init_64 : decode M_CP_init.2.1 64 = .ok (.dup, 1) := by decide +kernel
theorem d_CP_init_65 : decode M_CP_init.2.1 65 = .ok (.invokespecial 32, 3) := by decide +kernel
theorem d_CP_init_68 : decode M_CP_init.2.1 68 = .ok (.putfield 33, 3) := by decide +kernel
theorem d_CP_init_71 : decode M_CP_init.2.1 71 = .ok (.aload_n 0, 1) := by decide +kernel
theorem d_CP_init_72 : decode M_CP_init.2.1 72 = .ok (.new 16, 3) := by decide +kernel
theorem d_CP_init_75 : decode M_CP_init.2.1 75 = .ok (.dup, 1) := by decide +kernel
theorem d_CP_init_76 : decode M_CP_init.2.1 76 = .ok (.invokespecial 22, 3) := by decide +kernel
theorem d_CP_init_79 : decode M_CP_init.2.1 79 = .ok (.putfield 37, 3) := by decide +kernel
theorem d_CP_init_82 : decode M_CP_init.2.1 82 = .ok (.aload_n 0, 1) := by decide +kernel
theorem d_CP_init_83 : decode M_CP_init.2.1 83 = .ok (.new 16, 3) := by decide +kernel
theorem d_CP_init_86 : decode M_CP_init.2.1 86 = .ok (.dup, 1) := by decide +kernel
theorem d_CP_init_87 : decode M_CP_init.2.1 87 = .ok (.invokespecial 22, 3) := by decide +kernel
theorem d_CP_init_90 : decode M_CP_init.2.1 90 = .ok (.putfield 41, 3) := by decide +kernel
theorem d_CP_init_93 : decode M_CP_init.2.1 93 = .ok (.return_, 1) := by decide +kernel
theorem d_CP_type_0 : decode M_CP_type.2.1 0 = .ok (.iload_n 1, 1) := by decide +kernel
theorem d_CP_type_1 : decode M_CP_type.2.1 1 = .ok (.invokestatic 44, 3) := by decide +kernel
theorem d_CP_type_4 : decode M_CP_type.2.1 4 = .ok (.ifCond .eq 18, 3) := by decide +kernel
theorem d_CP_type_7 : decode M_CP_type.2.1 7 = .ok (.aload_n 0, 1) := by decide +kernel
theorem d_CP_type_8 : decode M_CP_type.2.1 8 = .ok (.getfield 10, 3) := by decide +kernel
theorem d_CP_type_11 : decode M_CP_type.2.1 11 = .ok (.iload_n 1, 1) := by decide +kernel
theorem d_CP_type_12 : decode M_CP_type.2.1 12 = .ok (.invokevirtual 48, 3) := by decide +kernel
theorem d_CP_type_15 : decode M_CP_type.2.1 15 = .ok (.ifCond .eq 7, 3) := by decide +kernel
theorem d_CP_type_18 : decode M_CP_type.2.1 18 = .ok (.iconst 1, 1) := by decide +kernel
theorem d_CP_type_19 : decode M_CP_type.2.1 19 = .ok (.goto 4, 3) := by decide +kernel
theorem d_CP_type_22 : decode M_CP_type.2.1 22 = .ok (.iconst 0, 1) := by decide +kernel
theorem d_CP_type_23 : decode M_CP_type.2.1 23 = .ok (.ireturn, 1) := by decide +kernel
theorem d_CP_wipe_0 : decode M_CP_wipe.2.1 0 = .ok (.aload_n 0, 1) := by decide +kernel
theorem d_CP_wipe_1 : decode M_CP_wipe.2.1 1 = .ok (.getfield 10, 3) := by decide +kernel
theorem d_CP_wipe_4 : decode M_CP_wipe.2.1 4 = .ok (.invokevirtual 51, 3) := by decide +kernel
theorem d_CP_wipe_7 : decode M_CP_wipe.2.1 7 = .ok (.return_, 1) := by decide +kernel
theorem d_CP_length_0 : decode M_CP_length.2.1 0 = .ok (.aload_n 0, 1) := by decide +kernel
theorem d_CP_length_1 : decode M_CP_length.2.1 1 = .ok (.getfield 10, 3) := by decide +kernel
theorem d_CP_length_4 : decode M_CP_length.2.1 4 = .ok (.getfield 54, 3) := by decide +kernel
theorem d_CP_length_7 : decode M_CP_length.2.1 7 = .ok (.ireturn, 1) := by decide +kernel
theorem d_CP_at_0 : decode M_CP_at.2.1 0 = .ok (.aload_n 0, 1) := by decide +kernel
theorem d_CP_at_1 : decode M_CP_at.2.1 1 = .ok (.getfield 10, 3) := by decide +kernel
theorem d_CP_at_4 : decode M_CP_at.2.1 4 = .ok (.iload_n 1, 1) := by decide +kernel
theorem d_CP_at_5 : decode M_CP_at.2.1 5 = .ok (.invokevirtual 58, 3) := by decide +kernel
theorem d_CP_at_8 : decode M_CP_at.2.1 8 = .ok (.ireturn, 1) := by decide +kernel
theorem d_CP_apply_0 : decode M_CP_apply.2.1 0 = .ok (.aload_n 0, 1) := by decide +kernel
theorem d_CP_apply_1 : decode M_CP_apply.2.1 1 = .ok (.iload_n 1, 1) := by decide +kernel
theorem d_CP_apply_2 : decode M_CP_apply.2.1 2 = .ok (.invokevirtual 62, 3) := by decide +kernel
theorem d_CP_apply_5 : decode M_CP_apply.2.1 5 = .ok (.astore_n 2, 1) := by decide +kernel
theorem d_CP_apply_6 : decode M_CP_apply.2.1 6 = .ok (.aload_n 2, 1) := by decide +kernel
theorem d_CP_apply_7 : decode M_CP_apply.2.1 7 = .ok (.ifnull 30, 3) := by decide +kernel
theorem d_CP_apply_10 : decode M_CP_apply.2.1 10 = .ok (.aload_n 0, 1) := by decide +kernel
theorem d_CP_apply_11 : decode M_CP_apply.2.1 11 = .ok (.getfield 26, 3) := by decide +kernel
theorem d_CP_apply_14 : decode M_CP_apply.2.1 14 = .ok (.getfield 66, 3) := by decide +kernel
theorem d_CP_apply_17 : decode M_CP_apply.2.1 17 = .ok (.aload_n 0, 1) := by decide +kernel
theorem d_CP_apply_18 : decode M_CP_apply.2.1 18 = .ok (.getfield 10, 3) := by decide +kernel
theorem d_CP_apply_21 : decode M_CP_apply.2.1 21 = .ok (.invokevirtual 70, 3) := by decide +kernel
theorem d_CP_apply_24 : decode M_CP_apply.2.1 24 = .ok (.ifCond .eq 13, 3) := by decide +kernel
theorem d_CP_apply_27 : decode M_CP_apply.2.1 27 = .ok (.aload_n 0, 1) := by decide +kernel
theorem d_CP_apply_28 : decode M_CP_apply.2.1 28 = .ok (.getfield 26, 3) := by decide +kernel
theorem d_CP_apply_31 : decode M_CP_apply.2.1 31 = .ok (.invokevirtual 76, 3) := by decide +kernel
theorem d_CP_apply_34 : decode M_CP_apply.2.1 34 = .ok (.ifCond .ne 5, 3) := by decide +kernel
theorem d_CP_apply_37 : decode M_CP_apply.2.1 37 = .ok (.iconst 0, 1) := by decide +kernel
theorem d_CP_apply_38 : decode M_CP_apply.2.1 38 = .ok (.ireturn, 1) := by decide +kernel
theorem d_CP_apply_39 : decode M_CP_apply.2.1 39 = .ok (.aload_n 2, 1) := by decide +kernel
theorem d_CP_apply_40 : decode M_CP_apply.2.1 40 = .ok (.aload_n 0, 1) := by decide +kernel
theorem d_CP_apply_41 : decode M_CP_apply.2.1 41 = .ok (.getfield 26, 3) := by decide +kernel
theorem d_CP_apply_44 : decode M_CP_apply.2.1 44 = .ok (.getfield 80, 3) := by decide +kernel
theorem d_CP_apply_47 : decode M_CP_apply.2.1 47 = .ok (.invokevirtual 83, 3) := by decide +kernel
theorem d_CP_apply_50 : decode M_CP_apply.2.1 50 = .ok (.iconst 1, 1) := by decide +kernel
theorem d_CP_apply_51 : decode M_CP_apply.2.1 51 = .ok (.ireturn, 1) := by decide +kernel
theorem d_CP_print_0 : decode M_CP_print.2.1 0 = .ok (.aload_n 0, 1) := by decide +kernel
theorem d_CP_print_1 : decode M_CP_print.2.1 1 = .ok (.iload_n 1, 1) := by decide +kernel
theorem d_CP_print_2 : decode M_CP_print.2.1 2 = .ok (.invokevirtual 62, 3) := by decide +kernel
theorem d_CP_print_5 : decode M_CP_print.2.1 5 = .ok (.astore_n 2, 1) := by decide +kernel
theorem d_CP_print_6 : decode M_CP_print.2.1 6 = .ok (.aload_n 2, 1) := by decide +kernel
theorem d_CP_print_7 : decode M_CP_print.2.1 7 = .ok (.ifnull 14, 3) := by decide +kernel
theorem d_CP_print_10 : decode M_CP_print.2.1 10 = .ok (.aload_n 0, 1) := by decide +kernel
theorem d_CP_print_11 : decode M_CP_print.2.1 11 = .ok (.getfield 33, 3) := by decide +kernel
theorem d_CP_print_14 : decode M_CP_print.2.1 14 = .ok (.aload_n 2, 1) := by decide +kernel
theorem d_CP_print_15 : decode M_CP_print.2.1 15 = .ok (.invokevirtual 87, 3) := by decide +kernel
theorem d_CP_print_18 : decode M_CP_print.2.1 18 = .ok (.ifCond .ne 5, 3) := by decide +kernel
theorem d_CP_print_21 : decode M_CP_print.2.1 21 = .ok (.iconst (-1), 1) := by decide +kernel
theorem d_CP_print_22 : decode M_CP_print.2.1 22 = .ok (.ireturn, 1) := by decide +kernel
theorem d_CP_print_23 : decode M_CP_print.2.1 23 = .ok (.aload_n 0, 1) := by decide +kernel
theorem d_CP_print_24 : decode M_CP_print.2.1 24 = .ok (.getfield 10, 3) := by decide +kernel
theorem d_CP_print_27 : decode M_CP_print.2.1 27 = .ok (.aload_n 0, 1) := by decide +kernel
theorem d_CP_print_28 : decode M_CP_print.2.1 28 = .ok (.getfield 33, 3) := by decide +kernel
theorem d_CP_print_31 : decode M_CP_print.2.1 31 = .ok (.getfield 91, 3) := by decide +kernel
theorem d_CP_print_34 : decode M_CP_print.2.1 34 = .ok (.invokevirtual 94, 3) := by decide +kernel
theorem d_CP_print_37 : decode M_CP_print.2.1 37 = .ok (.aload_n 0, 1) := by decide +kernel
theorem d_CP_print_38 : decode M_CP_print.2.1 38 = .ok (.getfield 10, 3) := by decide +kernel
theorem d_CP_print_41 : decode M_CP_print.2.1 41 = .ok (.getfield 54, 3) := by decide +kernel
theorem d_CP_print_44 : decode M_CP_print.2.1 44 = .ok (.ireturn, 1) := by decide +kernel
theorem d_CP_combine_0 : decode M_CP_combine.2.1 0 = .ok (.aload_n 0, 1) := by decide +kernel
theorem d_CP_combine_1 : decode M_CP_combine.2.1 1 = .ok (.iload_n 1, 1) := by decide +kernel
theorem d_CP_combine_2 : decode M_CP_combine.2.1 2 = .ok (.invokevirtual 62, 3) := by decide +kernel
theorem d_CP_combine_5 : decode M_CP_combine.2.1 5 = .ok (.astore 4, 2) := by decide +kernel
theorem d_CP_combine_7 : decode M_CP_combine.2.1 7 = .ok (.aload_n 0, 1) := by decide +kernel
theorem d_CP_combine_8 : decode M_CP_combine.2.1 8 = .ok (.iload_n 2, 1) := by decide +kernel
theorem d_CP_combine_9 : decode M_CP_combine.2.1 9 = .ok (.invokevirtual 62, 3) := by decide +kernel
theorem d_CP_combine_12 : decode M_CP_combine.2.1 12 = .ok (.astore 5, 2) := by decide +kernel
theorem d_CP_combine_14 : decode M_CP_combine.2.1 14 = .ok (.aload 4, 2) := by decide +kernel
theorem d_CP_combine_16 : decode M_CP_combine.2.1 16 = .ok (.ifnull 17, 3) := by decide +kernel
theorem d_CP_combine_19 : decode M_CP_combine.2.1 19 = .ok (.aload 5, 2) := by decide +kernel
theorem d_CP_combine_21 : decode M_CP_combine.2.1 21 = .ok (.ifnull 12, 3) := by decide +kernel
theorem d_CP_combine_24 : decode M_CP_combine.2.1 24 = .ok (.iload_n 3, 1) := by decide +kernel
theorem d_CP_combine_25 : decode M_CP_combine.2.1 25 = .ok (.ifCond .lt 8, 3) := by decide +kernel
theorem d_CP_combine_28 : decode M_CP_combine.2.1 28 = .ok (.iload_n 3, 1) := by decide +kernel
theorem d_CP_combine_29 : decode M_CP_combine.2.1 29 = .ok (.iconst 3, 1) := by decide +kernel
theorem d_CP_combine_30 : decode M_CP_combine.2.1 30 = .ok (.if_icmp .le 5, 3) := by decide +kernel
theorem d_CP_combine_33 : decode M_CP_combine.2.1 33 = .ok (.iconst 0, 1) := by decide +kernel
theorem d_CP_combine_34 : decode M_CP_combine.2.1 34 = .ok (.ireturn, 1) := by decide +kernel
theorem d_CP_combine_35 : decode M_CP_combine.2.1 35 = .ok (.aload_n 0, 1) := by decide +kernel
theorem d_CP_combine_36 : decode M_CP_combine.2.1 36 = .ok (.getfield 41, 3) := by decide +kernel
theorem d_CP_combine_39 : decode M_CP_combine.2.1 39 = .ok (.aload 4, 2) := by decide +kernel
theorem d_CP_combine_41 : decode M_CP_combine.2.1 41 = .ok (.aload 5, 2) := by decide +kernel
theorem d_CP_combine_43 : decode M_CP_combine.2.1 43 = .ok (.iload_n 3, 1) := by decide +kernel
theorem d_CP_combine_44 : decode M_CP_combine.2.1 44 = .ok (.invokevirtual 97, 3) := by decide +kernel
theorem d_CP_combine_47 : decode M_CP_combine.2.1 47 = .ok (.aload_n 0, 1) := by decide +kernel
theorem d_CP_combine_48 : decode M_CP_combine.2.1 48 = .ok (.iload_n 1, 1) := by decide +kernel
theorem d_CP_combine_49 : decode M_CP_combine.2.1 49 = .ok (.invokevirtual 101, 3) := by decide +kernel
theorem d_CP_combine_52 : decode M_CP_combine.2.1 52 = .ok (.ireturn, 1) := by decide +kernel
theorem d_CP_turn_0 : decode M_CP_turn.2.1 0 = .ok (.aload_n 0, 1) := by decide +kernel
theorem d_CP_turn_1 : decode M_CP_turn.2.1 1 = .ok (.iload_n 1, 1) := by decide +kernel
theorem d_CP_turn_2 : decode M_CP_turn.2.1 2 = .ok (.invokevirtual 62, 3) := by decide +kernel
theorem d_CP_turn_5 : decode M_CP_turn.2.1 5 = .ok (.astore_n 2, 1) := by decide +kernel
theorem d_CP_turn_6 : decode M_CP_turn.2.1 6 = .ok (.aload_n 2, 1) := by decide +kernel
theorem d_CP_turn_7 : decode M_CP_turn.2.1 7 = .ok (.ifnull 10, 3) := by decide +kernel
theorem d_CP_turn_10 : decode M_CP_turn.2.1 10 = .ok (.aload_n 2, 1) := by decide +kernel
theorem d_CP_turn_11 : decode M_CP_turn.2.1 11 = .ok (.getfield 104, 3) := by decide +kernel
theorem d_CP_turn_14 : decode M_CP_turn.2.1 14 = .ok (.ifCond .le 5, 3) := by decide +kernel
theorem d_CP_turn_17 : decode M_CP_turn.2.1 17 = .ok (.iconst 0, 1) := by decide +kernel
theorem d_CP_turn_18 : decode M_CP_turn.2.1 18 = .ok (.ireturn, 1) := by decide +kernel
theorem d_CP_turn_19 : decode M_CP_turn.2.1 19 = .ok (.aload_n 0, 1) := by decide +kernel
theorem d_CP_turn_20 : decode M_CP_turn.2.1 20 = .ok (.getfield 41, 3) := by decide +kernel
theorem d_CP_turn_23 : decode M_CP_turn.2.1 23 = .ok (.aload_n 2, 1) := by decide +kernel
theorem d_CP_turn_24 : decode M_CP_turn.2.1 24 = .ok (.invokevirtual 107, 3) := by decide +kernel
theorem d_CP_turn_27 : decode M_CP_turn.2.1 27 = .ok (.aload_n 0, 1) := by decide +kernel
theorem d_CP_turn_28 : decode M_CP_turn.2.1 28 = .ok (.iload_n 1, 1) := by decide +kernel
theorem d_CP_turn_29 : decode M_CP_turn.2.1 29 = .ok (.invokevirtual 101, 3) := by decide +kernel
theorem d_CP_turn_32 : decode M_CP_turn.2.1 32 = .ok (.ireturn, 1) := by decide +kernel
theorem d_CP_close_0 : decode M_CP_close.2.1 0 = .ok (.aload_n 0, 1) := by decide +kernel
theorem d_CP_close_1 : decode M_CP_close.2.1 1 = .ok (.iload_n 1, 1) := by decide +kernel
theorem d_CP_close_2 : decode M_CP_close.2.1 2 = .ok (.invokevirtual 62, 3) := by decide +kernel
theorem d_CP_close_5 : decode M_CP_close.2.1 5 = .ok (.astore_n 2, 1) := by decide +kernel
theorem d_CP_close_6 : decode M_CP_close.2.1 6 = .ok (.aload_n 2, 1) := by decide +kernel
theorem d_CP_close_7 : decode M_CP_close.2.1 7 = .ok (.ifnonnull 5, 3) := by decide +kernel
theorem d_CP_close_10 : decode M_CP_close.2.1 10 = .ok (.iconst (-1), 1) := by decide +kernel
theorem d_CP_close_11 : decode M_CP_close.2.1 11 = .ok (.ireturn, 1) := by decide +kernel
theorem d_CP_close_12 : decode M_CP_close.2.1 12 = .ok (.aload_n 2, 1) := by decide +kernel
theorem d_CP_close_13 : decode M_CP_close.2.1 13 = .ok (.aload_n 0, 1) := by decide +kernel
theorem d_CP_close_14 : decode M_CP_close.2.1 14 = .ok (.getfield 37, 3) := by decide +kernel
theorem d_CP_close_17 : decode M_CP_close.2.1 17 = .ok (.invokestatic 110, 3) := by decide +kernel
theorem d_CP_close_20 : decode M_CP_close.2.1 20 = .ok (.aload_n 0, 1) := by decide +kernel
theorem d_CP_close_21 : decode M_CP_close.2.1 21 = .ok (.getfield 41, 3) := by decide +kernel
theorem d_CP_close_24 : decode M_CP_close.2.1 24 = .ok (.aload_n 2, 1) := by decide +kernel
theorem d_CP_close_25 : decode M_CP_close.2.1 25 = .ok (.aload_n 0, 1) := by decide +kernel
theorem d_CP_close_26 : decode M_CP_close.2.1 26 = .ok (.getfield 37, 3) := by decide +kernel
theorem d_CP_close_29 : decode M_CP_close.2.1 29 = .ok (.iconst 0, 1) := by decide +kernel
theorem d_CP_close_30 : decode M_CP_close.2.1 30 = .ok (.invokevirtual 97, 3) := by decide +kernel
theorem d_CP_close_33 : decode M_CP_close.2.1 33 = .ok (.aload_n 0, 1) := by decide +kernel
theorem d_CP_close_34 : decode M_CP_close.2.1 34 = .ok (.getfield 41, 3) := by decide +kernel
theorem d_CP_close_37 : decode M_CP_close.2.1 37 = .ok (.invokevirtual 116, 3) := by decide +kernel
theorem d_CP_close_40 : decode M_CP_close.2.1 40 = .ok (.aload_n 2, 1) := by decide +kernel
theorem d_CP_close_41 : decode M_CP_close.2.1 41 = .ok (.invokevirtual 116, 3) := by decide +kernel
theorem d_CP_close_44 : decode M_CP_close.2.1 44 = .ok (.isub, 1) := by decide +kernel
theorem d_CP_close_45 : decode M_CP_close.2.1 45 = .ok (.istore_n 3, 1) := by decide +kernel
theorem d_CP_close_46 : decode M_CP_close.2.1 46 = .ok (.aload_n 0, 1) := by decide +kernel
theorem d_CP_close_47 : decode M_CP_close.2.1 47 = .ok (.iload_n 1, 1) := by decide +kernel
theorem d_CP_close_48 : decode M_CP_close.2.1 48 = .ok (.invokevirtual 101, 3) := by decide +kernel
theorem d_CP_close_51 : decode M_CP_close.2.1 51 = .ok (.ifCond .eq 7, 3) := by decide +kernel
theorem d_CP_close_54 : decode M_CP_close.2.1 54 = .ok (.iload_n 3, 1) := by decide +kernel
theorem d_CP_close_55 : decode M_CP_close.2.1 55 = .ok (.goto 4, 3) := by decide +kernel
theorem d_CP_close_58 : decode M_CP_close.2.1 58 = .ok (.iconst (-1), 1) := by decide +kernel
theorem d_CP_close_59 : decode M_CP_close.2.1 59 = .ok (.ireturn, 1) := by decide +kernel
theorem d_CP_contains_0 : decode M_CP_contains.2.1 0 = .ok (.aload_n 0, 1) := by decide +kernel
theorem d_CP_contains_1 : decode M_CP_contains.2.1 1 = .ok (.iload_n 1, 1) := by decide +kernel
theorem d_CP_contains_2 : decode M_CP_contains.2.1 2 = .ok (.invokevirtual 62, 3) := by decide +kernel
theorem d_CP_contains_5 : decode M_CP_contains.2.1 5 = .ok (.astore_n 3, 1) := by decide +kernel
theorem d_CP_contains_6 : decode M_CP_contains.2.1 6 = .ok (.aload_n 3, 1) := by decide +kernel
theorem d_CP_contains_7 : decode M_CP_contains.2.1 7 = .ok (.ifnull 22, 3) := by decide +kernel
theorem d_CP_contains_10 : decode M_CP_contains.2.1 10 = .ok (.iload_n 2, 1) := by decide +kernel
theorem d_CP_contains_11 : decode M_CP_contains.2.1 11 = .ok (.invokestatic 44, 3) := by decide +kernel
theorem d_CP_contains_14 : decode M_CP_contains.2.1 14 = .ok (.ifCond .eq 15, 3) := by decide +kernel
theorem d_CP_contains_17 : decode M_CP_contains.2.1 17 = .ok (.aload_n 3, 1) := by decide +kernel
theorem d_CP_contains_18 : decode M_CP_contains.2.1 18 = .ok (.iload_n 2, 1) := by decide +kernel
theorem d_CP_contains_19 : decode M_CP_contains.2.1 19 = .ok (.invokevirtual 120, 3) := by decide +kernel
theorem d_CP_contains_22 : decode M_CP_contains.2.1 22 = .ok (.ifCond .eq 7, 3) := by decide +kernel
theorem d_CP_contains_25 : decode M_CP_contains.2.1 25 = .ok (.iconst 1, 1) := by decide +kernel
theorem d_CP_contains_26 : decode M_CP_contains.2.1 26 = .ok (.goto 4, 3) := by decide +kernel
theorem d_CP_contains_29 : decode M_CP_contains.2.1 29 = .ok (.iconst 0, 1) := by decide +kernel
theorem d_CP_contains_30 : decode M_CP_contains.2.1 30 = .ok (.ireturn, 1) := by decide +kernel
theorem d_CP_has_0 : decode M_CP_has.2.1 0 = .ok (.aload_n 0, 1) := by decide +kernel
theorem d_CP_has_1 : decode M_CP_has.2.1 1 = .ok (.iload_n 1, 1) := by decide +kernel
theorem d_CP_has_2 : decode M_CP_has.2.1 2 = .ok (.invokevirtual 62, 3) := by decide +kernel
theorem d_CP_has_5 : decode M_CP_has.2.1 5 = .ok (.astore_n 2, 1) := by decide +kernel
theorem d_CP_has_6 : decode M_CP_has.2.1 6 = .ok (.aload_n 2, 1) := by decide +kernel
theorem d_CP_has_7 : decode M_CP_has.2.1 7 = .ok (.ifnull 23, 3) := by decide +kernel
theorem d_CP_has_10 : decode M_CP_has.2.1 10 = .ok (.aload_n 0, 1) := by decide +kernel
theorem d_CP_has_11 : decode M_CP_has.2.1 11 = .ok (.aload_n 2, 1) := by decide +kernel
theorem d_CP_has_12 : decode M_CP_has.2.1 12 = .ok (.iconst 0, 1) := by decide +kernel
theorem d_CP_has_13 : decode M_CP_has.2.1 13 = .ok (.aload_n 0, 1) := by decide +kernel
theorem d_CP_has_14 : decode M_CP_has.2.1 14 = .ok (.getfield 10, 3) := by decide +kernel
theorem d_CP_has_17 : decode M_CP_has.2.1 17 = .ok (.getfield 54, 3) := by decide +kernel
theorem d_CP_has_20 : decode M_CP_has.2.1 20 = .ok (.invokevirtual 123, 3) := by decide +kernel
theorem d_CP_has_23 : decode M_CP_has.2.1 23 = .ok (.ifCond .eq 7, 3) := by decide +kernel
theorem d_CP_has_26 : decode M_CP_has.2.1 26 = .ok (.iconst 1, 1) := by decide +kernel
theorem d_CP_has_27 : decode M_CP_has.2.1 27 = .ok (.goto 4, 3) := by decide +kernel
theorem d_CP_has_30 : decode M_CP_has.2.1 30 = .ok (.iconst 0, 1) := by decide +kernel
theorem d_CP_has_31 : decode M_CP_has.2.1 31 = .ok (.ireturn, 1) := by decide +kernel
theorem d_CP_includes_0 : decode M_CP_includes.2.1 0 = .ok (.aload_n 0, 1) := by decide +kernel
theorem d_CP_includes_1 : decode M_CP_includes.2.1 1 = .ok (.iload_n 1, 1) := by decide +kernel
theorem d_CP_includes_2 : decode M_CP_includes.2.1 2 = .ok (.invokevirtual 62, 3) := by decide +kernel
theorem d_CP_includes_5 : decode M_CP_includes.2.1 5 = .ok (.astore_n 3, 1) := by decide +kernel
theorem d_CP_includes_6 : decode M_CP_includes.2.1 6 = .ok (.aload_n 0, 1) := by decide +kernel
theorem d_CP_includes_7 : decode M_CP_includes.2.1 7 = .ok (.iload_n 2, 1) := by decide +kernel
theorem d_CP_includes_8 : decode M_CP_includes.2.1 8 = .ok (.invokevirtual 62, 3) := by decide +kernel
theorem d_CP_includes_11 : decode M_CP_includes.2.1 11 = .ok (.astore 4, 2) := by decide +kernel
theorem d_CP_includes_13 : decode M_CP_includes.2.1 13 = .ok (.aload_n 3, 1) := by decide +kernel
theorem d_CP_includes_14 : decode M_CP_includes.2.1 14 = .ok (.ifnull 8, 3) := by decide +kernel
theorem d_CP_includes_17 : decode M_CP_includes.2.1 17 = .ok (.aload 4, 2) := by decide +kernel
theorem d_CP_includes_19 : decode M_CP_includes.2.1 19 = .ok (.ifnonnull 5, 3) := by decide +kernel
theorem d_CP_includes_22 : decode M_CP_includes.2.1 22 = .ok (.iconst 0, 1) := by decide +kernel
theorem d_CP_includes_23 : decode M_CP_includes.2.1 23 = .ok (.ireturn, 1) := by decide +kernel
theorem d_CP_includes_24 : decode M_CP_includes.2.1 24 = .ok (.aload_n 0, 1) := by decide +kernel
theorem d_CP_includes_25 : decode M_CP_includes.2.1 25 = .ok (.getfield 41, 3) := by decide +kernel
theorem d_CP_includes_28 : decode M_CP_includes.2.1 28 = .ok (.aload 4, 2) := by decide +kernel
theorem d_CP_includes_30 : decode M_CP_includes.2.1 30 = .ok (.aload_n 3, 1) := by decide +kernel
theorem d_CP_includes_31 : decode M_CP_includes.2.1 31 = .ok (.iconst 2, 1) := by decide +kernel
theorem d_CP_includes_32 : decode M_CP_includes.2.1 32 = .ok (.invokevirtual 97, 3) := by decide +kernel
theorem d_CP_includes_35 : decode M_CP_includes.2.1 35 = .ok (.aload_n 0, 1) := by decide +kernel
theorem d_CP_includes_36 : decode M_CP_includes.2.1 36 = .ok (.getfield 41, 3) := by decide +kernel
theorem d_CP_includes_39 : decode M_CP_includes.2.1 39 = .ok (.getfield 127, 3) := by decide +kernel
theorem d_CP_includes_42 : decode M_CP_includes.2.1 42 = .ok (.ifCond .ne 17, 3) := by decide +kernel
theorem d_CP_includes_45 : decode M_CP_includes.2.1 45 = .ok (.aload_n 0, 1) := by decide +kernel
theorem d_CP_includes_46 : decode M_CP_includes.2.1 46 = .ok (.getfield 41, 3) := by decide +kernel
theorem d_CP_includes_49 : decode M_CP_includes.2.1 49 = .ok (.getfield 104, 3) := by decide +kernel
theorem d_CP_includes_52 : decode M_CP_includes.2.1 52 = .ok (.ifCond .ne 7, 3) := by decide +kernel
theorem d_CP_includes_55 : decode M_CP_includes.2.1 55 = .ok (.iconst 1, 1) := by decide +kernel
theorem d_CP_includes_56 : decode M_CP_includes.2.1 56 = .ok (.goto 4, 3) := by decide +kernel
theorem d_CP_includes_59 : decode M_CP_includes.2.1 59 = .ok (.iconst 0, 1) := by decide +kernel
theorem d_CP_includes_60 : decode M_CP_includes.2.1 60 = .ok (.ireturn, 1) := by decide +kernel
theorem d_CP_size_0 : decode M_CP_size.2.1 0 = .ok (.aload_n 0, 1) := by decide +kernel
theorem d_CP_size_1 : decode M_CP_size.2.1 1 = .ok (.iload_n 1, 1) := by decide +kernel
theorem d_CP_size_2 : decode M_CP_size.2.1 2 = .ok (.invokevirtual 62, 3) := by decide +kernel
theorem d_CP_size_5 : decode M_CP_size.2.1 5 = .ok (.astore_n 2, 1) := by decide +kernel
theorem d_CP_size_6 : decode M_CP_size.2.1 6 = .ok (.aload_n 2, 1) := by decide +kernel
theorem d_CP_size_7 : decode M_CP_size.2.1 7 = .ok (.ifnonnull 7, 3) := by decide +kernel
theorem d_CP_size_10 : decode M_CP_size.2.1 10 = .ok (.iconst (-1), 1) := by decide +kernel
theorem d_CP_size_11 : decode M_CP_size.2.1 11 = .ok (.goto 7, 3) := by decide +kernel
theorem d_CP_size_14 : decode M_CP_size.2.1 14 = .ok (.aload_n 2, 1) := by decide +kernel
theorem d_CP_size_15 : decode M_CP_size.2.1 15 = .ok (.invokevirtual 116, 3) := by decide +kernel
theorem d_CP_size_18 : decode M_CP_size.2.1 18 = .ok (.ireturn, 1) := by decide +kernel
theorem d_CP_strings_0 : decode M_CP_strings.2.1 0 = .ok (.aload_n 0, 1) := by decide +kernel
theorem d_CP_strings_1 : decode M_CP_strings.2.1 1 = .ok (.iload_n 1, 1) := by decide +kernel
theorem d_CP_strings_2 : decode M_CP_strings.2.1 2 = .ok (.invokevirtual 62, 3) := by decide +kernel
theorem d_CP_strings_5 : decode M_CP_strings.2.1 5 = .ok (.astore_n 2, 1) := by decide +kernel
theorem d_CP_strings_6 : decode M_CP_strings.2.1 6 = .ok (.aload_n 2, 1) := by decide +kernel
theorem d_CP_strings_7 : decode M_CP_strings.2.1 7 = .ok (.ifnonnull 7, 3) := by decide +kernel
theorem d_CP_strings_10 : decode M_CP_strings.2.1 10 = .ok (.iconst (-1), 1) := by decide +kernel
theorem d_CP_strings_11 : decode M_CP_strings.2.1 11 = .ok (.goto 7, 3) := by decide +kernel
theorem d_CP_strings_14 : decode M_CP_strings.2.1 14 = .ok (.aload_n 2, 1) := by decide +kernel
theorem d_CP_strings_15 : decode M_CP_strings.2.1 15 = .ok (.getfield 104, 3) := by decide +kernel
theorem d_CP_strings_18 : decode M_CP_strings.2.1 18 = .ok (.ireturn, 1) := by decide +kernel
theorem d_CP_edge_0 : decode M_CP_edge.2.1 0 = .ok (.aload_n 0, 1) := by decide +kernel
theorem d_CP_edge_1 : decode M_CP_edge.2.1 1 = .ok (.iload_n 1, 1) := by decide +kernel
theorem d_CP_edge_2 : decode M_CP_edge.2.1 2 = .ok (.invokevirtual 62, 3) := by decide +kernel
theorem d_CP_edge_5 : decode M_CP_edge.2.1 5 = .ok (.astore_n 3, 1) := by decide +kernel
theorem d_CP_edge_6 : decode M_CP_edge.2.1 6 = .ok (.aload_n 3, 1) := by decide +kernel
theorem d_CP_edge_7 : decode M_CP_edge.2.1 7 = .ok (.ifnull 15, 3) := by decide +kernel
theorem d_CP_edge_10 : decode M_CP_edge.2.1 10 = .ok (.iload_n 2, 1) := by decide +kernel
theorem d_CP_edge_11 : decode M_CP_edge.2.1 11 = .ok (.ifCond .lt 11, 3) := by decide +kernel
theorem d_CP_edge_14 : decode M_CP_edge.2.1 14 = .ok (.iload_n 2, 1) := by decide +kernel
theorem d_CP_edge_15 : decode M_CP_edge.2.1 15 = .ok (.aload_n 3, 1) := by decide +kernel
theorem d_CP_edge_16 : decode M_CP_edge.2.1 16 = .ok (.getfield 127, 3) := by decide +kernel
theorem d_CP_edge_19 : decode M_CP_edge.2.1 19 = .ok (.if_icmp .lt 5, 3) := by decide +kernel
theorem d_CP_edge_22 : decode M_CP_edge.2.1 22 = .ok (.iconst (-1), 1) := by decide +kernel
theorem d_CP_edge_23 : decode M_CP_edge.2.1 23 = .ok (.ireturn, 1) := by decide +kernel
theorem d_CP_edge_24 : decode M_CP_edge.2.1 24 = .ok (.aload_n 3, 1) := by decide +kernel
theorem d_CP_edge_25 : decode M_CP_edge.2.1 25 = .ok (.getfield 130, 3) := by decide +kernel
theorem d_CP_edge_28 : decode M_CP_edge.2.1 28 = .ok (.iload_n 2, 1) := by decide +kernel
theorem d_CP_edge_29 : decode M_CP_edge.2.1 29 = .ok (.iaload, 1) := by decide +kernel
theorem d_CP_edge_30 : decode M_CP_edge.2.1 30 = .ok (.ireturn, 1) := by decide +kernel
theorem d_CP_nth_0 : decode M_CP_nth.2.1 0 = .ok (.aload_n 0, 1) := by decide +kernel
theorem d_CP_nth_1 : decode M_CP_nth.2.1 1 = .ok (.iload_n 1, 1) := by decide +kernel
theorem d_CP_nth_2 : decode M_CP_nth.2.1 2 = .ok (.invokevirtual 62, 3) := by decide +kernel
theorem d_CP_nth_5 : decode M_CP_nth.2.1 5 = .ok (.astore_n 3, 1) := by decide +kernel
theorem d_CP_nth_6 : decode M_CP_nth.2.1 6 = .ok (.aload_n 3, 1) := by decide +kernel
theorem d_CP_nth_7 : decode M_CP_nth.2.1 7 = .ok (.ifnull 7, 3) := by decide +kernel
theorem d_CP_nth_10 : decode M_CP_nth.2.1 10 = .ok (.iload_n 2, 1) := by decide +kernel
theorem d_CP_nth_11 : decode M_CP_nth.2.1 11 = .ok (.ifCond .ge 7, 3) := by decide +kernel
theorem d_CP_nth_14 : decode M_CP_nth.2.1 14 = .ok (.iconst (-1), 1) := by decide +kernel
theorem d_CP_nth_15 : decode M_CP_nth.2.1 15 = .ok (.goto 8, 3) := by decide +kernel
theorem d_CP_nth_18 : decode M_CP_nth.2.1 18 = .ok (.aload_n 3, 1) := by decide +kernel
theorem d_CP_nth_19 : decode M_CP_nth.2.1 19 = .ok (.iload_n 2, 1) := by decide +kernel
theorem d_CP_nth_20 : decode M_CP_nth.2.1 20 = .ok (.invokevirtual 134, 3) := by decide +kernel
theorem d_CP_nth_23 : decode M_CP_nth.2.1 23 = .ok (.ireturn, 1) := by decide +kernel
theorem d_CP_span_0 : decode M_CP_span.2.1 0 = .ok (.aload_n 0, 1) := by decide +kernel
theorem d_CP_span_1 : decode M_CP_span.2.1 1 = .ok (.iload_n 1, 1) := by decide +kernel
theorem d_CP_span_2 : decode M_CP_span.2.1 2 = .ok (.invokevirtual 62, 3) := by decide +kernel
theorem d_CP_span_5 : decode M_CP_span.2.1 5 = .ok (.astore 4, 2) := by decide +kernel
theorem d_CP_span_7 : decode M_CP_span.2.1 7 = .ok (.aload 4, 2) := by decide +kernel
theorem d_CP_span_9 : decode M_CP_span.2.1 9 = .ok (.ifnull 18, 3) := by decide +kernel
theorem d_CP_span_12 : decode M_CP_span.2.1 12 = .ok (.iload_n 2, 1) := by decide +kernel
theorem d_CP_span_13 : decode M_CP_span.2.1 13 = .ok (.ifCond .lt 14, 3) := by decide +kernel
theorem d_CP_span_16 : decode M_CP_span.2.1 16 = .ok (.iload_n 2, 1) := by decide +kernel
theorem d_CP_span_17 : decode M_CP_span.2.1 17 = .ok (.aload_n 0, 1) := by decide +kernel
theorem d_CP_span_18 : decode M_CP_span.2.1 18 = .ok (.getfield 10, 3) := by decide +kernel
theorem d_CP_span_21 : decode M_CP_span.2.1 21 = .ok (.getfield 54, 3) := by decide +kernel
theorem d_CP_span_24 : decode M_CP_span.2.1 24 = .ok (.if_icmp .le 5, 3) := by decide +kernel
theorem d_CP_span_27 : decode M_CP_span.2.1 27 = .ok (.iconst (-1), 1) := by decide +kernel
theorem d_CP_span_28 : decode M_CP_span.2.1 28 = .ok (.ireturn, 1) := by decide +kernel
theorem d_CP_span_29 : decode M_CP_span.2.1 29 = .ok (.iload_n 3, 1) := by decide +kernel
theorem d_CP_span_30 : decode M_CP_span.2.1 30 = .ok (.ifCond .eq 13, 3) := by decide +kernel
theorem d_CP_span_33 : decode M_CP_span.2.1 33 = .ok (.aload_n 0, 1) := by decide +kernel
theorem d_CP_span_34 : decode M_CP_span.2.1 34 = .ok (.aload 4, 2) := by decide +kernel
theorem d_CP_span_36 : decode M_CP_span.2.1 36 = .ok (.iload_n 2, 1) := by decide +kernel
theorem d_CP_span_37 : decode M_CP_span.2.1 37 = .ok (.invokevirtual 137, 3) := by decide +kernel
theorem d_CP_span_40 : decode M_CP_span.2.1 40 = .ok (.goto 10, 3) := by decide +kernel
theorem d_CP_span_43 : decode M_CP_span.2.1 43 = .ok (.aload_n 0, 1) := by decide +kernel
theorem d_CP_span_44 : decode M_CP_span.2.1 44 = .ok (.aload 4, 2) := by decide +kernel
theorem d_CP_span_46 : decode M_CP_span.2.1 46 = .ok (.iload_n 2, 1) := by decide +kernel
theorem d_CP_span_47 : decode M_CP_span.2.1 47 = .ok (.invokevirtual 141, 3) := by decide +kernel
theorem d_CP_span_50 : decode M_CP_span.2.1 50 = .ok (.ireturn, 1) := by decide +kernel
theorem d_CP_endOfMembers_0 : decode M_CP_endOfMembers.2.1 0 = .ok (.lconst 1, 1) := by decide +kernel
theorem d_CP_endOfMembers_1 : decode M_CP_endOfMembers.2.1 1 = .ok (.iload_n 2, 1) := by decide +kernel
theorem d_CP_endOfMembers_2 : decode M_CP_endOfMembers.2.1 2 = .ok (.lshl, 1) := by decide +kernel
theorem d_CP_endOfMembers_3 : decode M_CP_endOfMembers.2.1 3 = .ok (.lstore_n 3, 1) := by decide +kernel
theorem d_CP_endOfMembers_4 : decode M_CP_endOfMembers.2.1 4 = .ok (.iload_n 2, 1) := by decide +kernel
theorem d_CP_endOfMembers_5 : decode M_CP_endOfMembers.2.1 5 = .ok (.istore 5, 2) := by decide +kernel
theorem d_CP_endOfMembers_7 : decode M_CP_endOfMembers.2.1 7 = .ok (.iload_n 2, 1) := by decide +kernel
theorem d_CP_endOfMembers_8 : decode M_CP_endOfMembers.2.1 8 = .ok (.istore 6, 2) := by decide +kernel
theorem d_CP_endOfMembers_10 : decode M_CP_endOfMembers.2.1 10 = .ok (.iload 6, 2) := by decide +kernel
theorem d_CP_endOfMembers_12 : decode M_CP_endOfMembers.2.1 12 = .ok (.aload_n 0, 1) := by decide +kernel
theorem d_CP_endOfMembers_13 : decode M_CP_endOfMembers.2.1 13 = .ok (.getfield 10, 3) := by decide +kernel
theorem d_CP_endOfMembers_16 : decode M_CP_endOfMembers.2.1 16 = .ok (.getfield 54, 3) := by decide +kernel
theorem d_CP_endOfMembers_19 : decode M_CP_endOfMembers.2.1 19 = .ok (.if_icmp .gt 64, 3) := by decide +kernel
theorem d_CP_endOfMembers_22 : decode M_CP_endOfMembers.2.1 22 = .ok (.lload_n 3, 1) := by decide +kernel
theorem d_CP_endOfMembers_23 : decode M_CP_endOfMembers.2.1 23 = .ok (.iload 6, 2) := by decide +kernel
theorem d_CP_endOfMembers_25 : decode M_CP_endOfMembers.2.1 25 = .ok (.lshr, 1) := by decide +kernel
theorem d_CP_endOfMembers_26 : decode M_CP_endOfMembers.2.1 26 = .ok (.lconst 1, 1) := by decide +kernel
theorem d_CP_endOfMembers_27 : decode M_CP_endOfMembers.2.1 27 = .ok (.land, 1) := by decide +kernel
theorem d_CP_endOfMembers_28 : decode M_CP_endOfMembers.2.1 28 = .ok (.lconst 0, 1) := by decide +kernel
theorem d_CP_endOfMembers_29 : decode M_CP_endOfMembers.2.1 29 = .ok (.lcmp, 1) := by decide +kernel
theorem d_CP_endOfMembers_30 : decode M_CP_endOfMembers.2.1 30 = .ok (.ifCond .ne 6, 3) := by decide +kernel
theorem d_CP_endOfMembers_33 : decode M_CP_endOfMembers.2.1 33 = .ok (.goto 44, 3) := by decide +kernel
theorem d_CP_endOfMembers_36 : decode M_CP_endOfMembers.2.1 36 = .ok (.iload 6, 2) := by decide +kernel
theorem d_CP_endOfMembers_38 : decode M_CP_endOfMembers.2.1 38 = .ok (.istore 5, 2) := by decide +kernel
theorem d_CP_endOfMembers_40 : decode M_CP_endOfMembers.2.1 40 = .ok (.iconst 1, 1) := by decide +kernel
theorem d_CP_endOfMembers_41 : decode M_CP_endOfMembers.2.1 41 = .ok (.istore 7, 2) := by decide +kernel
theorem d_CP_endOfMembers_43 : decode M_CP_endOfMembers.2.1 43 = .ok (.iload 7, 2) := by decide +kernel
theorem d_CP_endOfMembers_45 : decode M_CP_endOfMembers.2.1 45 = .ok (.iconst 3, 1) := by decide +kernel
theorem d_CP_endOfMembers_46 : decode M_CP_endOfMembers.2.1 46 = .ok (.if_icmp .gt 31, 3) := by decide +kernel
theorem d_CP_endOfMembers_49 : decode M_CP_endOfMembers.2.1 49 = .ok (.aload_n 0, 1) := by decide +kernel
theorem d_CP_endOfMembers_50 : decode M_CP_endOfMembers.2.1 50 = .ok (.aload_n 1, 1) := by decide +kernel
theorem d_CP_endOfMembers_51 : decode M_CP_endOfMembers.2.1 51 = .ok (.iload 6, 2) := by decide +kernel
theorem d_CP_endOfMembers_53 : decode M_CP_endOfMembers.2.1 53 = .ok (.iload 7, 2) := by decide +kernel
theorem d_CP_endOfMembers_55 : decode M_CP_endOfMembers.2.1 55 = .ok (.invokevirtual 123, 3) := by decide +kernel
theorem d_CP_endOfMembers_58 : decode M_CP_endOfMembers.2.1 58 = .ok (.ifCond .eq 13, 3) := by decide +kernel
theorem d_CP_endOfMembers_61 : decode M_CP_endOfMembers.2.1 61 = .ok (.lload_n 3, 1) := by decide +kernel
theorem d_CP_endOfMembers_62 : decode M_CP_endOfMembers.2.1 62 = .ok (.lconst 1, 1) := by decide +kernel
theorem d_CP_endOfMembers_63 : decode M_CP_endOfMembers.2.1 63 = .ok (.iload 6, 2) := by decide +kernel
theorem d_CP_endOfMembers_65 : decode M_CP_endOfMembers.2.1 65 = .ok (.iload 7, 2) := by decide +kernel
theorem d_CP_endOfMembers_67 : decode M_CP_endOfMembers.2.1 67 = .ok (.iadd, 1) := by decide +kernel
theorem d_CP_endOfMembers_68 : decode M_CP_endOfMembers.2.1 68 = .ok (.lshl, 1) := by decide +kernel
theorem d_CP_endOfMembers_69 : decode M_CP_endOfMembers.2.1 69 = .ok (.lor, 1) := by decide +kernel
theorem d_CP_endOfMembers_70 : decode M_CP_endOfMembers.2.1 70 = .ok (.lstore_n 3, 1) := by decide +kernel
theorem d_CP_endOfMembers_71 : decode M_CP_endOfMembers.2.1 71 = .ok (.iinc 7 1, 3) := by decide +kernel
theorem d_CP_endOfMembers_74 : decode M_CP_endOfMembers.2.1 74 = .ok (.goto (-31), 3) := by decide +kernel
theorem d_CP_endOfMembers_77 : decode M_CP_endOfMembers.2.1 77 = .ok (.iinc 6 1, 3) := by decide +kernel
theorem d_CP_endOfMembers_80 : decode M_CP_endOfMembers.2.1 80 = .ok (.goto (-70), 3) := by decide +kernel
theorem d_CP_endOfMembers_83 : decode M_CP_endOfMembers.2.1 83 = .ok (.iload 5, 2) := by decide +kernel
theorem d_CP_endOfMembers_85 : decode M_CP_endOfMembers.2.1 85 = .ok (.ireturn, 1) := by decide +kernel
theorem d_CP_beginOfMember_0 : decode M_CP_beginOfMember.2.1 0 = .ok (.iload_n 2, 1) := by decide +kernel
theorem d_CP_beginOfMember_1 : decode M_CP_beginOfMember.2.1 1 = .ok (.istore_n 3, 1) := by decide +kernel
theorem d_CP_beginOfMember_2 : decode M_CP_beginOfMember.2.1 2 = .ok (.iload_n 3, 1) := by decide +kernel
theorem d_CP_beginOfMember_3 : decode M_CP_beginOfMember.2.1 3 = .ok (.aload_n 0, 1) := by decide +kernel
theorem d_CP_beginOfMember_4 : decode M_CP_beginOfMember.2.1 4 = .ok (.getfield 10, 3) := by decide +kernel
theorem d_CP_beginOfMember_7 : decode M_CP_beginOfMember.2.1 7 = .ok (.getfield 54, 3) := by decide +kernel
theorem d_CP_beginOfMember_10 : decode M_CP_beginOfMember.2.1 10 = .ok (.if_icmp .ge 37, 3) := by decide +kernel
theorem d_CP_beginOfMember_13 : decode M_CP_beginOfMember.2.1 13 = .ok (.iconst 1, 1) := by decide +kernel
theorem d_CP_beginOfMember_14 : decode M_CP_beginOfMember.2.1 14 = .ok (.istore 4, 2) := by decide +kernel
theorem d_CP_beginOfMember_16 : decode M_CP_beginOfMember.2.1 16 = .ok (.iload 4, 2) := by decide +kernel
theorem d_CP_beginOfMember_18 : decode M_CP_beginOfMember.2.1 18 = .ok (.iconst 3, 1) := by decide +kernel
theorem d_CP_beginOfMember_19 : decode M_CP_beginOfMember.2.1 19 = .ok (.if_icmp .gt 22, 3) := by decide +kernel
theorem d_CP_beginOfMember_22 : decode M_CP_beginOfMember.2.1 22 = .ok (.aload_n 0, 1) := by decide +kernel
theorem d_CP_beginOfMember_23 : decode M_CP_beginOfMember.2.1 23 = .ok (.aload_n 1, 1) := by decide +kernel
theorem d_CP_beginOfMember_24 : decode M_CP_beginOfMember.2.1 24 = .ok (.iload_n 3, 1) := by decide +kernel
theorem d_CP_beginOfMember_25 : decode M_CP_beginOfMember.2.1 25 = .ok (.iload 4, 2) := by decide +kernel
theorem d_CP_beginOfMember_27 : decode M_CP_beginOfMember.2.1 27 = .ok (.invokevirtual 123, 3) := by decide +kernel
theorem d_CP_beginOfMember_30 : decode M_CP_beginOfMember.2.1 30 = .ok (.ifCond .eq 5, 3) := by decide +kernel
theorem d_CP_beginOfMember_33 : decode M_CP_beginOfMember.2.1 33 = .ok (.iload_n 3, 1) := by decide +kernel
theorem d_CP_beginOfMember_34 : decode M_CP_beginOfMember.2.1 34 = .ok (.ireturn, 1) := by decide +kernel
theorem d_CP_beginOfMember_35 : decode M_CP_beginOfMember.2.1 35 = .ok (.iinc 4 1, 3) := by decide +kernel
theorem d_CP_beginOfMember_38 : decode M_CP_beginOfMember.2.1 38 = .ok (.goto (-22), 3) := by decide +kernel
theorem d_CP_beginOfMember_41 : decode M_CP_beginOfMember.2.1 41 = .ok (.iinc 3 1, 3) := by decide +kernel
theorem d_CP_beginOfMember_44 : decode M_CP_beginOfMember.2.1 44 = .ok (.goto (-42), 3) := by decide +kernel
theorem d_CP_beginOfMember_47 : decode M_CP_beginOfMember.2.1 47 = .ok (.aload_n 0, 1) := by decide +kernel
theorem d_CP_beginOfMember_48 : decode M_CP_beginOfMember.2.1 48 = .ok (.getfield 10, 3) := by decide +kernel
theorem d_CP_beginOfMember_51 : decode M_CP_beginOfMember.2.1 51 = .ok (.getfield 54, 3) := by decide +kernel
theorem d_CP_beginOfMember_54 : decode M_CP_beginOfMember.2.1 54 = .ok (.ireturn, 1) := by decide +kernel
theorem d_CP_textIsMember_0 : decode M_CP_textIsMember.2.1 0 = .ok (.iload_n 3, 1) := by decide +kernel
theorem d_CP_textIsMember_1 : decode M_CP_textIsMember.2.1 1 = .ok (.iconst 1, 1) := by decide +kernel
theorem d_CP_textIsMember_2 : decode M_CP_textIsMember.2.1 2 = .ok (.if_icmp .lt 21, 3) := by decide +kernel
theorem d_CP_textIsMember_5 : decode M_CP_textIsMember.2.1 5 = .ok (.iload_n 3, 1) := by decide +kernel
theorem d_CP_textIsMember_6 : decode M_CP_textIsMember.2.1 6 = .ok (.iconst 3, 1) := by decide +kernel
theorem d_CP_textIsMember_7 : decode M_CP_textIsMember.2.1 7 = .ok (.if_icmp .gt 16, 3) := by decide +kernel
theorem d_CP_textIsMember_10 : decode M_CP_textIsMember.2.1 10 = .ok (.iload_n 2, 1) := by decide +kernel
theorem d_CP_textIsMember_11 : decode M_CP_textIsMember.2.1 11 = .ok (.iload_n 3, 1) := by decide +kernel
theorem d_CP_textIsMember_12 : decode M_CP_textIsMember.2.1 12 = .ok (.iadd, 1) := by decide +kernel
theorem d_CP_textIsMember_13 : decode M_CP_textIsMember.2.1 13 = .ok (.aload_n 0, 1) := by decide +kernel
theorem d_CP_textIsMember_14 : decode M_CP_textIsMember.2.1 14 = .ok (.getfield 10, 3) := by decide +kernel
theorem d_CP_textIsMember_17 : decode M_CP_textIsMember.2.1 17 = .ok (.getfield 54, 3) := by decide +kernel
theorem d_CP_textIsMember_20 : decode M_CP_textIsMember.2.1 20 = .ok (.if_icmp .le 5, 3) := by decide +kernel
theorem d_CP_textIsMember_23 : decode M_CP_textIsMember.2.1 23 = .ok (.iconst 0, 1) := by decide +kernel
theorem d_CP_textIsMember_24 : decode M_CP_textIsMember.2.1 24 = .ok (.ireturn, 1) := by decide +kernel
theorem d_CP_textIsMember_25 : decode M_CP_textIsMember.2.1 25 = .ok (.aload_n 0, 1) := by decide +kernel
theorem d_CP_textIsMember_26 : decode M_CP_textIsMember.2.1 26 = .ok (.getfield 10, 3) := by decide +kernel
theorem d_CP_textIsMember_29 : decode M_CP_textIsMember.2.1 29 = .ok (.iload_n 2, 1) := by decide +kernel
theorem d_CP_textIsMember_30 : decode M_CP_textIsMember.2.1 30 = .ok (.invokevirtual 58, 3) := by decide +kernel
theorem d_CP_textIsMember_33 : decode M_CP_textIsMember.2.1 33 = .ok (.istore 4, 2) := by decide +kernel
theorem d_CP_textIsMember_35 : decode M_CP_textIsMember.2.1 35 = .ok (.iload_n 3, 1) := by decide +kernel
theorem d_CP_textIsMember_36 : decode M_CP_textIsMember.2.1 36 = .ok (.iconst 1, 1) := by decide +kernel
theorem d_CP_textIsMember_37 : decode M_CP_textIsMember.2.1 37 = .ok (.if_icmp .ne 10, 3) := by decide +kernel
theorem d_CP_textIsMember_40 : decode M_CP_textIsMember.2.1 40 = .ok (.aload_n 1, 1) := by decide +kernel
theorem d_CP_textIsMember_41 : decode M_CP_textIsMember.2.1 41 = .ok (.iload 4, 2) := by decide +kernel
theorem d_CP_textIsMember_43 : decode M_CP_textIsMember.2.1 43 = .ok (.invokevirtual 120, 3) := by decide +kernel
theorem d_CP_textIsMember_46 : decode M_CP_textIsMember.2.1 46 = .ok (.ireturn, 1) := by decide +kernel
theorem d_CP_textIsMember_47 : decode M_CP_textIsMember.2.1 47 = .ok (.iload_n 3, 1) := by decide +kernel
theorem d_CP_textIsMember_48 : decode M_CP_textIsMember.2.1 48 = .ok (.iconst 3, 1) := by decide +kernel
theorem d_CP_textIsMember_49 : decode M_CP_textIsMember.2.1 49 = .ok (.if_icmp .ne 16, 3) := by decide +kernel
theorem d_CP_textIsMember_52 : decode M_CP_textIsMember.2.1 52 = .ok (.aload_n 0, 1) := by decide +kernel
theorem d_CP_textIsMember_53 : decode M_CP_textIsMember.2.1 53 = .ok (.getfield 10, 3) := by decide +kernel
theorem d_CP_textIsMember_56 : decode M_CP_textIsMember.2.1 56 = .ok (.iload_n 2, 1) := by decide +kernel
theorem d_CP_textIsMember_57 : decode M_CP_textIsMember.2.1 57 = .ok (.iconst 2, 1) := by decide +kernel
theorem d_CP_textIsMember_58 : decode M_CP_textIsMember.2.1 58 = .ok (.iadd, 1) := by decide +kernel
theorem d_CP_textIsMember_59 : decode M_CP_textIsMember.2.1 59 = .ok (.invokevirtual 58, 3) := by decide +kernel
theorem d_CP_textIsMember_62 : decode M_CP_textIsMember.2.1 62 = .ok (.goto 4, 3) := by decide +kernel
theorem d_CP_textIsMember_65 : decode M_CP_textIsMember.2.1 65 = .ok (.iconst (-1), 1) := by decide +kernel
theorem d_CP_textIsMember_66 : decode M_CP_textIsMember.2.1 66 = .ok (.istore 5, 2) := by decide +kernel
theorem d_CP_textIsMember_68 : decode M_CP_textIsMember.2.1 68 = .ok (.aload_n 1, 1) := by decide +kernel
theorem d_CP_textIsMember_69 : decode M_CP_textIsMember.2.1 69 = .ok (.iload 4, 2) := by decide +kernel
theorem d_CP_textIsMember_71 : decode M_CP_textIsMember.2.1 71 = .ok (.aload_n 0, 1) := by decide +kernel
theorem d_CP_textIsMember_72 : decode M_CP_textIsMember.2.1 72 = .ok (.getfield 10, 3) := by decide +kernel
theorem d_CP_textIsMember_75 : decode M_CP_textIsMember.2.1 75 = .ok (.iload_n 2, 1) := by decide +kernel
theorem d_CP_textIsMember_76 : decode M_CP_textIsMember.2.1 76 = .ok (.iconst 1, 1) := by decide +kernel
theorem d_CP_textIsMember_77 : decode M_CP_textIsMember.2.1 77 = .ok (.iadd, 1) := by decide +kernel
theorem d_CP_textIsMember_78 : decode M_CP_textIsMember.2.1 78 = .ok (.invokevirtual 58, 3) := by decide +kernel
theorem d_CP_textIsMember_81 : decode M_CP_textIsMember.2.1 81 = .ok (.iload 5, 2) := by decide +kernel
theorem d_CP_textIsMember_83 : decode M_CP_textIsMember.2.1 83 = .ok (.invokestatic 144, 3) := by decide +kernel
theorem d_CP_textIsMember_86 : decode M_CP_textIsMember.2.1 86 = .ok (.invokevirtual 148, 3) := by decide +kernel
theorem d_CP_textIsMember_89 : decode M_CP_textIsMember.2.1 89 = .ok (.ireturn, 1) := by decide +kernel
theorem d_CP_registerAt_0 : decode M_CP_registerAt.2.1 0 = .ok (.iload_n 1, 1) := by decide +kernel
theorem d_CP_registerAt_1 : decode M_CP_registerAt.2.1 1 = .ok (.ifCond .lt 17, 3) := by decide +kernel
theorem d_CP_registerAt_4 : decode M_CP_registerAt.2.1 4 = .ok (.iload_n 1, 1) := by decide +kernel
theorem d_CP_registerAt_5 : decode M_CP_registerAt.2.1 5 = .ok (.iconst 3, 1) := by decide +kernel
theorem d_CP_registerAt_6 : decode M_CP_registerAt.2.1 6 = .ok (.if_icmp .ge 12, 3) := by decide +kernel
theorem d_CP_registerAt_9 : decode M_CP_registerAt.2.1 9 = .ok (.aload_n 0, 1) := by decide +kernel
theorem d_CP_registerAt_10 : decode M_CP_registerAt.2.1 10 = .ok (.getfield 18, 3) := by decide +kernel
theorem d_CP_registerAt_13 : decode M_CP_registerAt.2.1 13 = .ok (.iload_n 1, 1) := by decide +kernel
theorem d_CP_registerAt_14 : decode M_CP_registerAt.2.1 14 = .ok (.aaload, 1) := by decide +kernel
theorem d_CP_registerAt_15 : decode M_CP_registerAt.2.1 15 = .ok (.goto 4, 3) := by decide +kernel
theorem d_CP_registerAt_18 : decode M_CP_registerAt.2.1 18 = .ok (.aconst_null, 1) := by decide +kernel
theorem d_CP_registerAt_19 : decode M_CP_registerAt.2.1 19 = .ok (.areturn, 1) := by decide +kernel
theorem d_CP_keepSpare_0 : decode M_CP_keepSpare.2.1 0 = .ok (.aload_n 0, 1) := by decide +kernel
theorem d_CP_keepSpare_1 : decode M_CP_keepSpare.2.1 1 = .ok (.getfield 41, 3) := by decide +kernel
theorem d_CP_keepSpare_4 : decode M_CP_keepSpare.2.1 4 = .ok (.getfield 127, 3) := by decide +kernel
theorem d_CP_keepSpare_7 : decode M_CP_keepSpare.2.1 7 = .ok (.sipush 200, 3) := by decide +kernel
theorem d_CP_keepSpare_10 : decode M_CP_keepSpare.2.1 10 = .ok (.if_icmp .gt 15, 3) := by decide +kernel
theorem d_CP_keepSpare_13 : decode M_CP_keepSpare.2.1 13 = .ok (.aload_n 0, 1) := by decide +kernel
theorem d_CP_keepSpare_14 : decode M_CP_keepSpare.2.1 14 = .ok (.getfield 41, 3) := by decide +kernel
theorem d_CP_keepSpare_17 : decode M_CP_keepSpare.2.1 17 = .ok (.getfield 104, 3) := by decide +kernel
theorem d_CP_keepSpare_20 : decode M_CP_keepSpare.2.1 20 = .ok (.bipush 8, 2) := by decide +kernel
theorem d_CP_keepSpare_22 : decode M_CP_keepSpare.2.1 22 = .ok (.if_icmp .le 5, 3) := by decide +kernel
theorem d_CP_keepSpare_25 : decode M_CP_keepSpare.2.1 25 = .ok (.iconst 0, 1) := by decide +kernel
theorem d_CP_keepSpare_26 : decode M_CP_keepSpare.2.1 26 = .ok (.ireturn, 1) := by decide +kernel
theorem d_CP_keepSpare_27 : decode M_CP_keepSpare.2.1 27 = .ok (.aload_n 0, 1) := by decide +kernel
theorem d_CP_keepSpare_28 : decode M_CP_keepSpare.2.1 28 = .ok (.getfield 18, 3) := by decide +kernel
theorem d_CP_keepSpare_31 : decode M_CP_keepSpare.2.1 31 = .ok (.iload_n 1, 1) := by decide +kernel
theorem d_CP_keepSpare_32 : decode M_CP_keepSpare.2.1 32 = .ok (.aaload, 1) := by decide +kernel
theorem d_CP_keepSpare_33 : decode M_CP_keepSpare.2.1 33 = .ok (.astore_n 2, 1) := by decide +kernel
theorem d_CP_keepSpare_34 : decode M_CP_keepSpare.2.1 34 = .ok (.aload_n 0, 1) := by decide +kernel
theorem d_CP_keepSpare_35 : decode M_CP_keepSpare.2.1 35 = .ok (.getfield 18, 3) := by decide +kernel
theorem d_CP_keepSpare_38 : decode M_CP_keepSpare.2.1 38 = .ok (.iload_n 1, 1) := by decide +kernel
theorem d_CP_keepSpare_39 : decode M_CP_keepSpare.2.1 39 = .ok (.aload_n 0, 1) := by decide +kernel
theorem d_CP_keepSpare_40 : decode M_CP_keepSpare.2.1 40 = .ok (.getfield 41, 3) := by decide +kernel
theorem d_CP_keepSpare_43 : decode M_CP_keepSpare.2.1 43 = .ok (.aastore, 1) := by decide +kernel
theorem d_CP_keepSpare_44 : decode M_CP_keepSpare.2.1 44 = .ok (.aload_n 0, 1) := by decide +kernel
theorem d_CP_keepSpare_45 : decode M_CP_keepSpare.2.1 45 = .ok (.aload_n 2, 1) := by decide +kernel
theorem d_CP_keepSpare_46 : decode M_CP_keepSpare.2.1 46 = .ok (.putfield 41, 3) := by decide +kernel
theorem d_CP_keepSpare_49 : decode M_CP_keepSpare.2.1 49 = .ok (.iconst 1, 1) := by decide +kernel
theorem d_CP_keepSpare_50 : decode M_CP_keepSpare.2.1 50 = .ok (.ireturn, 1) := by decide +kernel
theorem d_CP_isCodePoint_0 : decode M_CP_isCodePoint.2.1 0 = .ok (.iload_n 0, 1) := by decide +kernel
theorem d_CP_isCodePoint_1 : decode M_CP_isCodePoint.2.1 1 = .ok (.ifCond .lt 13, 3) := by decide +kernel
theorem d_CP_isCodePoint_4 : decode M_CP_isCodePoint.2.1 4 = .ok (.iload_n 0, 1) := by decide +kernel
theorem d_CP_isCodePoint_5 : decode M_CP_isCodePoint.2.1 5 = .ok (.ldc 152, 2) := by decide +kernel
theorem d_CP_isCodePoint_7 : decode M_CP_isCodePoint.2.1 7 = .ok (.if_icmp .ge 7, 3) := by decide +kernel
theorem d_CP_isCodePoint_10 : decode M_CP_isCodePoint.2.1 10 = .ok (.iconst 1, 1) := by decide +kernel
theorem d_CP_isCodePoint_11 : decode M_CP_isCodePoint.2.1 11 = .ok (.goto 4, 3) := by decide +kernel
theorem d_CP_isCodePoint_14 : decode M_CP_isCodePoint.2.1 14 = .ok (.iconst 0, 1) := by decide +kernel
theorem d_CP_isCodePoint_15 : decode M_CP_isCodePoint.2.1 15 = .ok (.ireturn, 1) := by decide +kernel
theorem d_PR_init_0 : decode M_PR_init.2.1 0 = .ok (.aload_n 0, 1) := by decide +kernel
theorem d_PR_init_1 : decode M_PR_init.2.1 1 = .ok (.invokespecial 3, 3) := by decide +kernel
theorem d_PR_init_4 : decode M_PR_init.2.1 4 = .ok (.aload_n 0, 1) := by decide +kernel
theorem d_PR_init_5 : decode M_PR_init.2.1 5 = .ok (.new 9, 3) := by decide +kernel
theorem d_PR_init_8 : decode M_PR_init.2.1 8 = .ok (.dup, 1) := by decide +kernel
theorem d_PR_init_9 : decode M_PR_init.2.1 9 = .ok (.invokespecial 11, 3) := by decide +kernel
theorem d_PR_init_12 : decode M_PR_init.2.1 12 = .ok (.putfield 12, 3) := by decide +kernel
theorem d_PR_init_15 : decode M_PR_init.2.1 15 = .ok (.aload_n 0, 1) := by decide +kernel
theorem d_PR_init_16 : decode M_PR_init.2.1 16 = .ok (.iconst 5, 1) := by decide +kernel
theorem d_PR_init_17 : decode M_PR_init.2.1 17 = .ok (.anewarray 18, 3) := by decide +kernel
theorem d_PR_init_20 : decode M_PR_init.2.1 20 = .ok (.putfield 20, 3) := by decide +kernel
theorem d_PR_init_23 : decode M_PR_init.2.1 23 = .ok (.aload_n 0, 1) := by decide +kernel
theorem d_PR_init_24 : decode M_PR_init.2.1 24 = .ok (.new 24, 3) := by decide +kernel
theorem d_PR_init_27 : decode M_PR_init.2.1 27 = .ok (.dup, 1) := by decide +kernel
theorem d_PR_init_28 : decode M_PR_init.2.1 28 = .ok (.invokespecial 26, 3) := by decide +kernel
theorem d_PR_init_31 : decode M_PR_init.2.1 31 = .ok (.putfield 27, 3) := by decide +kernel
theorem d_PR_init_34 : decode M_PR_init.2.1 34 = .ok (.aload_n 0, 1) := by decide +kernel
theorem d_PR_init_35 : decode M_PR_init.2.1 35 = .ok (.new 24, 3) := by decide +kernel
theorem d_PR_init_38 : decode M_PR_init.2.1 38 = .ok (.dup, 1) := by decide +kernel
theorem d_PR_init_39 : decode M_PR_init.2.1 39 = .ok (.invokespecial 26, 3) := by decide +kernel
theorem d_PR_init_42 : decode M_PR_init.2.1 42 = .ok (.putfield 31, 3) := by decide +kernel
theorem d_PR_init_45 : decode M_PR_init.2.1 45 = .ok (.aload_n 0, 1) := by decide +kernel
theorem d_PR_init_46 : decode M_PR_init.2.1 46 = .ok (.aload_n 0, 1) := by decide +kernel
theorem d_PR_init_47 : decode M_PR_init.2.1 47 = .ok (.getfield 27, 3) := by decide +kernel
theorem d_PR_init_50 : decode M_PR_init.2.1 50 = .ok (.putfield 34, 3) := by decide +kernel
theorem d_PR_init_53 : decode M_PR_init.2.1 53 = .ok (.iconst 0, 1) := by decide +kernel
theorem d_PR_init_54 : decode M_PR_init.2.1 54 = .ok (.istore_n 1, 1) := by decide +kernel
theorem d_PR_init_55 : decode M_PR_init.2.1 55 = .ok (.iload_n 1, 1) := by decide +kernel
theorem d_PR_init_56 : decode M_PR_init.2.1 56 = .ok (.iconst 5, 1) := by decide +kernel
theorem d_PR_init_57 : decode M_PR_init.2.1 57 = .ok (.if_icmp .ge 22, 3) := by decide +kernel
theorem d_PR_init_60 : decode M_PR_init.2.1 60 = .ok (.aload_n 0, 1) := by decide +kernel
theorem d_PR_init_61 : decode M_PR_init.2.1 61 = .ok (.getfield 20, 3) := by decide +kernel
theorem d_PR_init_64 : decode M_PR_init.2.1 64 = .ok (.iload_n 1, 1) := by decide +kernel
theorem d_PR_init_65 : decode M_PR_init.2.1 65 = .ok (.new 18, 3) := by decide +kernel
theorem d_PR_init_68 : decode M_PR_init.2.1 68 = .ok (.dup, 1) := by decide +kernel
theorem d_PR_init_69 : decode M_PR_init.2.1 69 = .ok (.invokespecial 37, 3) := by decide +kernel
theorem d_PR_init_72 : decode M_PR_init.2.1 72 = .ok (.aastore, 1) := by decide +kernel
theorem d_PR_init_73 : decode M_PR_init.2.1 73 = .ok (.iinc 1 1, 3) := by decide +kernel
theorem d_PR_init_76 : decode M_PR_init.2.1 76 = .ok (.goto (-21), 3) := by decide +kernel
theorem d_PR_init_79 : decode M_PR_init.2.1 79 = .ok (.return_, 1) := by decide +kernel
theorem d_PR_readPattern_0 : decode M_PR_readPattern.2.1 0 = .ok (.aload_n 0, 1) := by decide +kernel
theorem d_PR_readPattern_1 : decode M_PR_readPattern.2.1 1 = .ok (.iconst 0, 1) := by decide +kernel
theorem d_PR_readPattern_2 : decode M_PR_readPattern.2.1 2 = .ok (.putfield 38, 3) := by decide +kernel
theorem d_PR_readPattern_5 : decode M_PR_readPattern.2.1 5 = .ok (.aload_n 0, 1) := by decide +kernel
theorem d_PR_readPattern_6 : decode M_PR_readPattern.2.1 6 = .ok (.iconst 0, 1) := by decide +kernel
theorem d_PR_readPattern_7 : decode M_PR_readPattern.2.1 7 = .ok (.putfield 42, 3) := by decide +kernel
theorem d_PR_readPattern_10 : decode M_PR_readPattern.2.1 10 = .ok (.iconst 0, 1) := by decide +kernel
theorem d_PR_readPattern_11 : decode M_PR_readPattern.2.1 11 = .ok (.istore_n 1, 1) := by decide +kernel
theorem d_PR_readPattern_12 : decode M_PR_readPattern.2.1 12 = .ok (.iload_n 1, 1) := by decide +kernel
theorem d_PR_readPattern_13 : decode M_PR_readPattern.2.1 13 = .ok (.bipush 60, 2) := by decide +kernel
theorem d_PR_readPattern_15 : decode M_PR_readPattern.2.1 15 = .ok (.if_icmp .ge 59, 3) := by decide +kernel
theorem d_PR_readPattern_18 : decode M_PR_readPattern.2.1 18 = .ok (.aload_n 0, 1) := by decide +kernel
theorem d_PR_readPattern_19 : decode M_PR_readPattern.2.1 19 = .ok (.getfield 42, 3) := by decide +kernel
theorem d_PR_readPattern_22 : decode M_PR_readPattern.2.1 22 = .ok (.aload_n 0, 1) := by decide +kernel
theorem d_PR_readPattern_23 : decode M_PR_readPattern.2.1 23 = .ok (.getfield 12, 3) := by decide +kernel
theorem d_PR_readPattern_26 : decode M_PR_readPattern.2.1 26 = .ok (.getfield 45, 3) := by decide +kernel
theorem d_PR_readPattern_29 : decode M_PR_readPattern.2.1 29 = .ok (.if_icmp .ge 45, 3) := by decide +kernel
theorem d_PR_readPattern_32 : decode M_PR_readPattern.2.1 32 = .ok (.aload_n 0, 1) := by decide +kernel
theorem d_PR_readPattern_33 : decode M_PR_readPattern.2.1 33 = .ok (.invokevirtual 48, 3) := by decide +kernel
theorem d_PR_readPattern_36 : decode M_PR_readPattern.2.1 36 = .ok (.ifCond .ne 5, 3) := by decide +kernel
theorem d_PR_readPattern_39 : decode M_PR_readPattern.2.1 39 = .ok (.iconst 0, 1) := by decide +kernel
theorem d_PR_readPattern_40 : decode M_PR_readPattern.2.1 40 = .ok (.ireturn, 1) := by decide +kernel
theorem d_PR_readPattern_41 : decode M_PR_readPattern.2.1 41 = .ok (.aload_n 0, 1) := by decide +kernel
theorem d_PR_readPattern_42 : decode M_PR_readPattern.2.1 42 = .ok (.getfield 38, 3) := by decide +kernel
theorem d_PR_readPattern_45 : decode M_PR_readPattern.2.1 45 = .ok (.ifCond .ne 23, 3) := by decide +kernel
theorem d_PR_readPattern_48 : decode M_PR_readPattern.2.1 48 = .ok (.aload_n 0, 1) := by decide +kernel
theorem d_PR_readPattern_49 : decode M_PR_readPattern.2.1 49 = .ok (.getfield 42, 3) := by decide +kernel
theorem d_PR_readPattern_52 : decode M_PR_readPattern.2.1 52 = .ok (.aload_n 0, 1) := by decide +kernel
theorem d_PR_readPattern_53 : decode M_PR_readPattern.2.1 53 = .ok (.getfield 12, 3) := by decide +kernel
theorem d_PR_readPattern_56 : decode M_PR_readPattern.2.1 56 = .ok (.getfield 45, 3) := by decide +kernel
theorem d_PR_readPattern_59 : decode M_PR_readPattern.2.1 59 = .ok (.if_icmp .ne 7, 3) := by decide +kernel
theorem d_PR_readPattern_62 : decode M_PR_readPattern.2.1 62 = .ok (.iconst 1, 1) := by decide +kernel
theorem d_PR_readPattern_63 : decode M_PR_readPattern.2.1 63 = .ok (.goto 4, 3) := by decide +kernel
theorem d_PR_readPattern_66 : decode M_PR_readPattern.2.1 66 = .ok (.iconst 0, 1) := by decide +kernel
theorem d_PR_readPattern_67 : decode M_PR_readPattern.2.1 67 = .ok (.ireturn, 1) := by decide +kernel
theorem d_PR_readPattern_68 : decode M_PR_readPattern.2.1 68 = .ok (.iinc 1 1, 3) := by decide +kernel
theorem d_PR_readPattern_71 : decode M_PR_readPattern.2.1 71 = .ok (.goto (-59), 3) := by decide +kernel
theorem d_PR_readPattern_74 : decode M_PR_readPattern.2.1 74 = .ok (.iconst 0, 1) := by decide +kernel
theorem d_PR_readPattern_75 : decode M_PR_readPattern.2.1 75 = .ok (.ireturn, 1) := by decide +kernel
theorem d_PR_readPart_0 : decode M_PR_readPart.2.1 0 = .ok (.aload_n 0, 1) := by decide +kernel
theorem d_PR_readPart_1 : decode M_PR_readPart.2.1 1 = .ok (.getfield 12, 3) := by decide +kernel
theorem d_PR_readPart_4 : decode M_PR_readPart.2.1 4 = .ok (.aload_n 0, 1) := by decide +kernel
theorem d_PR_readPart_5 : decode M_PR_readPart.2.1 5 = .ok (.getfield 42, 3) := by decide +kernel
theorem d_PR_readPart_8 : decode M_PR_readPart.2.1 8 = .ok (.invokevirtual 52, 3) := by decide +kernel
theorem d_PR_readPart_11 : decode M_PR_readPart.2.1 11 = .ok (.istore_n 1, 1) := by decide +kernel
theorem d_PR_readPart_12 : decode M_PR_readPart.2.1 12 = .ok (.aload_n 0, 1) := by decide +kernel
theorem d_PR_readPart_13 : decode M_PR_readPart.2.1 13 = .ok (.getfield 38, 3) := by decide +kernel
theorem d_PR_readPart_16 : decode M_PR_readPart.2.1 16 = .ok (.ifCond .ne 19, 3) := by decide +kernel
theorem d_PR_readPart_19 : decode M_PR_readPart.2.1 19 = .ok (.aload_n 0, 1) := by decide +kernel
theorem d_PR_readPart_20 : decode M_PR_readPart.2.1 20 = .ok (.getfield 12, 3) := by decide +kernel
theorem d_PR_readPart_23 : decode M_PR_readPart.2.1 23 = .ok (.aload_n 0, 1) := by decide +kernel
theorem d_PR_readPart_24 : decode M_PR_readPart.2.1 24 = .ok (.getfield 42, 3) := by decide +kernel
theorem d_PR_readPart_27 : decode M_PR_readPart.2.1 27 = .ok (.invokevirtual 56, 3) := by decide +kernel
theorem d_PR_readPart_30 : decode M_PR_readPart.2.1 30 = .ok (.ifCond .ne 5, 3) := by decide +kernel
theorem d_PR_readPart_33 : decode M_PR_readPart.2.1 33 = .ok (.iconst 0, 1) := by decide +kernel
theorem d_PR_readPart_34 : decode M_PR_readPart.2.1 34 = .ok (.ireturn, 1) := by decide +kernel
theorem d_PR_readPart_35 : decode M_PR_readPart.2.1 35 = .ok (.iload_n 1, 1) := by decide +kernel
theorem d_PR_readPart_36 : decode M_PR_readPart.2.1 36 = .ok (.tableswitch 112 1 10 #[96, 76, 76, 56, 56, 71, 91, 112, 101, 106], 56) := by decide +kernel
theorem d_PR_readPart_92 : decode M_PR_readPart.2.1 92 = .ok (.aload_n 0, 1) := by decide +kernel
theorem d_PR_readPart_93 : decode M_PR_readPart.2.1 93 = .ok (.iload_n 1, 1) := by decide +kernel
theorem d_PR_readPart_94 : decode M_PR_readPart.2.1 94 = .ok (.iconst 5, 1) := by decide +kernel
theorem d_PR_readPart_95 : decode M_PR_readPart.2.1 95 = .ok (.if_icmp .ne 7, 3) := by decide +kernel
theorem d_PR_readPart_98 : decode M_PR_readPart.2.1 98 = .ok (.iconst 1, 1) := by decide +kernel
theorem d_PR_readPart_99 : decode M_PR_readPart.2.1 99 = .ok (.goto 4, 3) := by decide +kernel
theorem d_PR_readPart_102 : decode M_PR_readPart.2.1 102 = .ok (.iconst 0, 1) := by decide +kernel
theorem d_PR_readPart_103 : decode M_PR_readPart.2.1 103 = .ok (.invokevirtual 60, 3) := by decide +kernel
theorem d_PR_readPart_106 : decode M_PR_readPart.2.1 106 = .ok (.ireturn, 1) := by decide +kernel
theorem d_PR_readPart_107 : decode M_PR_readPart.2.1 107 = .ok (.aload_n 0, 1) := by decide +kernel
theorem d_PR_readPart_108 : decode M_PR_readPart.2.1 108 = .ok (.invokevirtual 64, 3) := by decide +kernel
theorem d_PR_readPart_111 : decode M_PR_readPart.2.1 111 = .ok (.ireturn, 1) := by decide +kernel
theorem d_PR_readPart_112 : decode M_PR_readPart.2.1 112 = .ok (.aload_n 0, 1) := by decide +kernel
theorem d_PR_readPart_113 : decode M_PR_readPart.2.1 113 = .ok (.iload_n 1, 1) := by decide +kernel
theorem d_PR_readPart_114 : decode M_PR_readPart.2.1 114 = .ok (.iconst 3, 1) := by decide +kernel
theorem d_PR_readPart_115 : decode M_PR_readPart.2.1 115 = .ok (.if_icmp .ne 7, 3) := by decide +kernel
theorem d_PR_readPart_118 : decode M_PR_readPart.2.1 118 = .ok (.iconst 1, 1) := by decide +kernel
theorem d_PR_readPart_119 : decode M_PR_readPart.2.1 119 = .ok (.goto 4, 3) := by decide +kernel
theorem d_PR_readPart_122 : decode M_PR_readPart.2.1 122 = .ok (.iconst 0, 1) := by decide +kernel
theorem d_PR_readPart_123 : decode M_PR_readPart.2.1 123 = .ok (.invokevirtual 67, 3) := by decide +kernel
theorem d_PR_readPart_126 : decode M_PR_readPart.2.1 126 = .ok (.ireturn, 1) := by decide +kernel
theorem d_PR_readPart_127 : decode M_PR_readPart.2.1 127 = .ok (.aload_n 0, 1) := by decide +kernel
theorem d_PR_readPart_128 : decode M_PR_readPart.2.1 128 = .ok (.invokevirtual 70, 3) := by decide +kernel
theorem d_PR_readPart_131 : decode M_PR_readPart.2.1 131 = .ok (.ireturn, 1) := by decide +kernel
theorem d_PR_readPart_132 : decode M_PR_readPart.2.1 132 = .ok (.aload_n 0, 1) := by decide +kernel
theorem d_PR_readPart_133 : decode M_PR_readPart.2.1 133 = .ok (.invokevirtual 73, 3) := by decide +kernel
theorem d_PR_readPart_136 : decode M_PR_readPart.2.1 136 = .ok (.ireturn, 1) := by decide +kernel
theorem d_PR_readPart_137 : decode M_PR_readPart.2.1 137 = .ok (.aload_n 0, 1) := by decide +kernel
theorem d_PR_readPart_138 : decode M_PR_readPart.2.1 138 = .ok (.invokevirtual 76, 3) := by decide +kernel
theorem d_PR_readPart_141 : decode M_PR_readPart.2.1 141 = .ok (.ireturn, 1) := by decide +kernel
theorem d_PR_readPart_142 : decode M_PR_readPart.2.1 142 = .ok (.aload_n 0, 1) := by decide +kernel
theorem d_PR_readPart_143 : decode M_PR_readPart.2.1 143 = .ok (.iconst 1, 1) := by decide +kernel
theorem d_PR_readPart_144 : decode M_PR_readPart.2.1 144 = .ok (.invokevirtual 79, 3) := by decide +kernel
theorem d_PR_readPart_147 : decode M_PR_readPart.2.1 147 = .ok (.ireturn, 1) := by decide +kernel
theorem d_PR_readPart_148 : decode M_PR_readPart.2.1 148 = .ok (.iconst 0, 1) := by decide +kernel
theorem d_PR_readPart_149 : decode M_PR_readPart.2.1 149 = .ok (.ireturn, 1) := by decide +kernel
theorem d_PR_openBracket_0 : decode M_PR_openBracket.2.1 0 = .ok (.aload_n 0, 1) := by decide +kernel
theorem d_PR_openBracket_1 : decode M_PR_openBracket.2.1 1 = .ok (.getfield 38, 3) := by decide +kernel
theorem d_PR_openBracket_4 : decode M_PR_openBracket.2.1 4 = .ok (.iconst 5, 1) := by decide +kernel
theorem d_PR_openBracket_5 : decode M_PR_openBracket.2.1 5 = .ok (.if_icmp .lt 5, 3) := by decide +kernel
theorem d_PR_openBracket_8 : decode M_PR_openBracket.2.1 8 = .ok (.iconst 0, 1) := by decide +kernel
theorem d_PR_openBracket_9 : decode M_PR_openBracket.2.1 9 = .ok (.ireturn, 1) := by decide +kernel
theorem d_PR_openBracket_10 : decode M_PR_openBracket.2.1 10 = .ok (.aload_n 0, 1) := by decide +kernel
theorem d_PR_openBracket_11 : decode M_PR_openBracket.2.1 11 = .ok (.getfield 20, 3) := by decide +kernel
theorem d_PR_openBracket_14 : decode M_PR_openBracket.2.1 14 = .ok (.aload_n 0, 1) := by decide +kernel
theorem d_PR_openBracket_15 : decode M_PR_openBracket.2.1 15 = .ok (.getfield 38, 3) := by decide +kernel
theorem d_PR_openBracket_18 : decode M_PR_openBracket.2.1 18 = .ok (.aaload, 1) := by decide +kernel
theorem d_PR_openBracket_19 : decode M_PR_openBracket.2.1 19 = .ok (.iload_n 1, 1) := by decide +kernel
theorem d_PR_openBracket_20 : decode M_PR_openBracket.2.1 20 = .ok (.invokevirtual 82, 3) := by decide +kernel
theorem d_PR_openBracket_23 : decode M_PR_openBracket.2.1 23 = .ok (.aload_n 0, 1) := by decide +kernel
theorem d_PR_openBracket_24 : decode M_PR_openBracket.2.1 24 = .ok (.dup, 1) := by decide +kernel
theorem d_PR_openBracket_25 : decode M_PR_openBracket.2.1 25 = .ok (.getfield 38, 3) := by decide +kernel
theorem d_PR_openBracket_28 : decode M_PR_openBracket.2.1 28 = .ok (.iconst 1, 1) := by decide +kernel
theorem d_PR_openBracket_29 : decode M_PR_openBracket.2.1 29 = .ok (.iadd, 1) := by decide +kernel
theorem d_PR_openBracket_30 : decode M_PR_openBracket.2.1 30 = .ok (.putfield 38, 3) := by decide +kernel
theorem d_PR_openBracket_33 : decode M_PR_openBracket.2.1 33 = .ok (.aload_n 0, 1) := by decide +kernel
theorem d_PR_openBracket_34 : decode M_PR_openBracket.2.1 34 = .ok (.dup, 1) := by decide +kernel
theorem d_PR_openBracket_35 : decode M_PR_openBracket.2.1 35 = .ok (.getfield 42, 3) := by decide +kernel
theorem d_PR_openBracket_38 : decode M_PR_openBracket.2.1 38 = .ok (.iconst 1, 1) := by decide +kernel
theorem d_PR_openBracket_39 : decode M_PR_openBracket.2.1 39 = .ok (.iadd, 1) := by decide +kernel
theorem d_PR_openBracket_40 : decode M_PR_openBracket.2.1 40 = .ok (.putfield 42, 3) := by decide +kernel
theorem d_PR_openBracket_43 : decode M_PR_openBracket.2.1 43 = .ok (.iconst 1, 1) := by decide +kernel
theorem d_PR_openBracket_44 : decode M_PR_openBracket.2.1 44 = .ok (.ireturn, 1) := by decide +kernel
theorem d_PR_endBracket_0 : decode M_PR_endBracket.2.1 0 = .ok (.aload_n 0, 1) := by decide +kernel
theorem d_PR_endBracket_1 : decode M_PR_endBracket.2.1 1 = .ok (.invokevirtual 86, 3) := by decide +kernel
theorem d_PR_endBracket_4 : decode M_PR_endBracket.2.1 4 = .ok (.astore_n 1, 1) := by decide +kernel
theorem d_PR_endBracket_5 : decode M_PR_endBracket.2.1 5 = .ok (.aload_n 1, 1) := by decide +kernel
theorem d_PR_endBracket_6 : decode M_PR_endBracket.2.1 6 = .ok (.getfield 90, 3) := by decide +kernel
theorem d_PR_endBracket_9 : decode M_PR_endBracket.2.1 9 = .ok (.ifCond .eq 44, 3) := by decide +kernel
theorem d_PR_endBracket_12 : decode M_PR_endBracket.2.1 12 = .ok (.aload_n 1, 1) := by decide +kernel
theorem d_PR_endBracket_13 : decode M_PR_endBracket.2.1 13 = .ok (.getfield 94, 3) := by decide +kernel
theorem d_PR_endBracket_16 : decode M_PR_endBracket.2.1 16 = .ok (.getfield 95, 3) := by decide +kernel
theorem d_PR_endBracket_19 : decode M_PR_endBracket.2.1 19 = .ok (.ifCond .le 5, 3) := by decide +kernel
theorem d_PR_endBracket_22 : decode M_PR_endBracket.2.1 22 = .ok (.iconst 0, 1) := by decide +kernel
theorem d_PR_endBracket_23 : decode M_PR_endBracket.2.1 23 = .ok (.ireturn, 1) := by decide +kernel
theorem d_PR_endBracket_24 : decode M_PR_endBracket.2.1 24 = .ok (.aload_n 0, 1) := by decide +kernel
theorem d_PR_endBracket_25 : decode M_PR_endBracket.2.1 25 = .ok (.getfield 31, 3) := by decide +kernel
theorem d_PR_endBracket_28 : decode M_PR_endBracket.2.1 28 = .ok (.aload_n 1, 1) := by decide +kernel
theorem d_PR_endBracket_29 : decode M_PR_endBracket.2.1 29 = .ok (.getfield 94, 3) := by decide +kernel
theorem d_PR_endBracket_32 : decode M_PR_endBracket.2.1 32 = .ok (.invokevirtual 98, 3) := by decide +kernel
theorem d_PR_endBracket_35 : decode M_PR_endBracket.2.1 35 = .ok (.aload_n 1, 1) := by decide +kernel
theorem d_PR_endBracket_36 : decode M_PR_endBracket.2.1 36 = .ok (.getfield 94, 3) := by decide +kernel
theorem d_PR_endBracket_39 : decode M_PR_endBracket.2.1 39 = .ok (.astore_n 2, 1) := by decide +kernel
theorem d_PR_endBracket_40 : decode M_PR_endBracket.2.1 40 = .ok (.aload_n 1, 1) := by decide +kernel
theorem d_PR_endBracket_41 : decode M_PR_endBracket.2.1 41 = .ok (.aload_n 0, 1) := by decide +kernel
theorem d_PR_endBracket_42 : decode M_PR_endBracket.2.1 42 = .ok (.getfield 31, 3) := by decide +kernel
theorem d_PR_endBracket_45 : decode M_PR_endBracket.2.1 45 = .ok (.putfield 94, 3) := by decide +kernel
theorem d_PR_endBracket_48 : decode M_PR_endBracket.2.1 48 = .ok (.aload_n 0, 1) := by decide +kernel
theorem d_PR_endBracket_49 : decode M_PR_endBracket.2.1 49 = .ok (.aload_n 2, 1) := by decide +kernel
theorem d_PR_endBracket_50 : decode M_PR_endBracket.2.1 50 = .ok (.putfield 31, 3) := by decide +kernel
theorem d_PR_endBracket_53 : decode M_PR_endBracket.2.1 53 = .ok (.aload_n 0, 1) := by decide +kernel
theorem d_PR_endBracket_54 : decode M_PR_endBracket.2.1 54 = .ok (.dup, 1) := by decide +kernel
theorem d_PR_endBracket_55 : decode M_PR_endBracket.2.1 55 = .ok (.getfield 38, 3) := by decide +kernel
theorem d_PR_endBracket_58 : decode M_PR_endBracket.2.1 58 = .ok (.iconst 1, 1) := by decide +kernel
theorem d_PR_endBracket_59 : decode M_PR_endBracket.2.1 59 = .ok (.isub, 1) := by decide +kernel
theorem d_PR_endBracket_60 : decode M_PR_endBracket.2.1 60 = .ok (.putfield 38, 3) := by decide +kernel
theorem d_PR_endBracket_63 : decode M_PR_endBracket.2.1 63 = .ok (.aload_n 0, 1) := by decide +kernel
theorem d_PR_endBracket_64 : decode M_PR_endBracket.2.1 64 = .ok (.dup, 1) := by decide +kernel
theorem d_PR_endBracket_65 : decode M_PR_endBracket.2.1 65 = .ok (.getfield 42, 3) := by decide +kernel
theorem d_PR_endBracket_68 : decode M_PR_endBracket.2.1 68 = .ok (.iconst 1, 1) := by decide +kernel
theorem d_PR_endBracket_69 : decode M_PR_endBracket.2.1 69 = .ok (.iadd, 1) := by decide +kernel
theorem d_PR_endBracket_70 : decode M_PR_endBracket.2.1 70 = .ok (.putfield 42, 3) := by decide +kernel
theorem d_PR_endBracket_73 : decode M_PR_endBracket.2.1 73 = .ok (.aload_n 0, 1) := by decide +kernel
theorem d_PR_endBracket_74 : decode M_PR_endBracket.2.1 74 = .ok (.aload_n 1, 1) := by decide +kernel
theorem d_PR_endBracket_75 : decode M_PR_endBracket.2.1 75 = .ok (.getfield 94, 3) := by decide +kernel
theorem d_PR_endBracket_78 : decode M_PR_endBracket.2.1 78 = .ok (.iconst 1, 1) := by decide +kernel
theorem d_PR_endBracket_79 : decode M_PR_endBracket.2.1 79 = .ok (.invokevirtual 102, 3) := by decide +kernel
theorem d_PR_endBracket_82 : decode M_PR_endBracket.2.1 82 = .ok (.ireturn, 1) := by decide +kernel
theorem d_PR_readProperty_0 : decode M_PR_readProperty.2.1 0 = .ok (.aload_n 0, 1) := by decide +kernel
theorem d_PR_readProperty_1 : decode M_PR_readProperty.2.1 1 = .ok (.getfield 27, 3) := by decide +kernel
theorem d_PR_readProperty_4 : decode M_PR_readProperty.2.1 4 = .ok (.aload_n 0, 1) := by decide +kernel
theorem d_PR_readProperty_5 : decode M_PR_readProperty.2.1 5 = .ok (.getfield 12, 3) := by decide +kernel
theorem d_PR_readProperty_8 : decode M_PR_readProperty.2.1 8 = .ok (.aload_n 0, 1) := by decide +kernel
theorem d_PR_readProperty_9 : decode M_PR_readProperty.2.1 9 = .ok (.getfield 42, 3) := by decide +kernel
theorem d_PR_readProperty_12 : decode M_PR_readProperty.2.1 12 = .ok (.invokevirtual 106, 3) := by decide +kernel
theorem d_PR_readProperty_15 : decode M_PR_readProperty.2.1 15 = .ok (.invokestatic 109, 3) := by decide +kernel
theorem d_PR_readProperty_18 : decode M_PR_readProperty.2.1 18 = .ok (.invokevirtual 115, 3) := by decide +kernel
theorem d_PR_readProperty_21 : decode M_PR_readProperty.2.1 21 = .ok (.iload_n 1, 1) := by decide +kernel
theorem d_PR_readProperty_22 : decode M_PR_readProperty.2.1 22 = .ok (.ifCond .eq 32, 3) := by decide +kernel
theorem d_PR_readProperty_25 : decode M_PR_readProperty.2.1 25 = .ok (.aload_n 0, 1) := by decide +kernel
theorem d_PR_readProperty_26 : decode M_PR_readProperty.2.1 26 = .ok (.getfield 31, 3) := by decide +kernel
theorem d_PR_readProperty_29 : decode M_PR_readProperty.2.1 29 = .ok (.aload_n 0, 1) := by decide +kernel
theorem d_PR_readProperty_30 : decode M_PR_readProperty.2.1 30 = .ok (.getfield 27, 3) := by decide +kernel
theorem d_PR_readProperty_33 : decode M_PR_readProperty.2.1 33 = .ok (.invokevirtual 98, 3) := by decide +kernel
theorem d_PR_readProperty_36 : decode M_PR_readProperty.2.1 36 = .ok (.aload_n 0, 1) := by decide +kernel
theorem d_PR_readProperty_37 : decode M_PR_readProperty.2.1 37 = .ok (.getfield 27, 3) := by decide +kernel
theorem d_PR_readProperty_40 : decode M_PR_readProperty.2.1 40 = .ok (.astore_n 2, 1) := by decide +kernel
theorem d_PR_readProperty_41 : decode M_PR_readProperty.2.1 41 = .ok (.aload_n 0, 1) := by decide +kernel
theorem d_PR_readProperty_42 : decode M_PR_readProperty.2.1 42 = .ok (.aload_n 0, 1) := by decide +kernel
theorem d_PR_readProperty_43 : decode M_PR_readProperty.2.1 43 = .ok (.getfield 31, 3) := by decide +kernel
theorem d_PR_readProperty_46 : decode M_PR_readProperty.2.1 46 = .ok (.putfield 27, 3) := by decide +kernel
theorem d_PR_readProperty_49 : decode M_PR_readProperty.2.1 49 = .ok (.aload_n 0, 1) := by decide +kernel
theorem d_PR_readProperty_50 : decode M_PR_readProperty.2.1 50 = .ok (.aload_n 2, 1) := by decide +kernel
theorem d_PR_readProperty_51 : decode M_PR_readProperty.2.1 51 = .ok (.putfield 31, 3) := by decide +kernel
theorem d_PR_readProperty_54 : decode M_PR_readProperty.2.1 54 = .ok (.aload_n 0, 1) := by decide +kernel
theorem d_PR_readProperty_55 : decode M_PR_readProperty.2.1 55 = .ok (.dup, 1) := by decide +kernel
theorem d_PR_readProperty_56 : decode M_PR_readProperty.2.1 56 = .ok (.getfield 42, 3) := by decide +kernel
theorem d_PR_readProperty_59 : decode M_PR_readProperty.2.1 59 = .ok (.iconst 1, 1) := by decide +kernel
theorem d_PR_readProperty_60 : decode M_PR_readProperty.2.1 60 = .ok (.iadd, 1) := by decide +kernel
theorem d_PR_readProperty_61 : decode M_PR_readProperty.2.1 61 = .ok (.putfield 42, 3) := by decide +kernel
theorem d_PR_readProperty_64 : decode M_PR_readProperty.2.1 64 = .ok (.aload_n 0, 1) := by decide +kernel
theorem d_PR_readProperty_65 : decode M_PR_readProperty.2.1 65 = .ok (.aload_n 0, 1) := by decide +kernel
theorem d_PR_readProperty_66 : decode M_PR_readProperty.2.1 66 = .ok (.getfield 27, 3) := by decide +kernel
theorem d_PR_readProperty_69 : decode M_PR_readProperty.2.1 69 = .ok (.iconst 1, 1) := by decide +kernel
theorem d_PR_readProperty_70 : decode M_PR_readProperty.2.1 70 = .ok (.invokevirtual 102, 3) := by decide +kernel
theorem d_PR_readProperty_73 : decode M_PR_readProperty.2.1 73 = .ok (.ireturn, 1) := by decide +kernel
theorem d_PR_readString_0 : decode M_PR_readString.2.1 0 = .ok (.iconst 0, 1) := by decide +kernel
theorem d_PR_readString_1 : decode M_PR_readString.2.1 1 = .ok (.istore_n 1, 1) := by decide +kernel
theorem d_PR_readString_2 : decode M_PR_readString.2.1 2 = .ok (.iconst 1, 1) := by decide +kernel
theorem d_PR_readString_3 : decode M_PR_readString.2.1 3 = .ok (.istore_n 2, 1) := by decide +kernel
theorem d_PR_readString_4 : decode M_PR_readString.2.1 4 = .ok (.iload_n 2, 1) := by decide +kernel
theorem d_PR_readString_5 : decode M_PR_readString.2.1 5 = .ok (.iconst 3, 1) := by decide +kernel
theorem d_PR_readString_6 : decode M_PR_readString.2.1 6 = .ok (.if_icmp .gt 28, 3) := by decide +kernel
theorem d_PR_readString_9 : decode M_PR_readString.2.1 9 = .ok (.aload_n 0, 1) := by decide +kernel
theorem d_PR_readString_10 : decode M_PR_readString.2.1 10 = .ok (.getfield 12, 3) := by decide +kernel
theorem d_PR_readString_13 : decode M_PR_readString.2.1 13 = .ok (.aload_n 0, 1) := by decide +kernel
theorem d_PR_readString_14 : decode M_PR_readString.2.1 14 = .ok (.getfield 42, 3) := by decide +kernel
theorem d_PR_readString_17 : decode M_PR_readString.2.1 17 = .ok (.iload_n 2, 1) := by decide +kernel
theorem d_PR_readString_18 : decode M_PR_readString.2.1 18 = .ok (.iadd, 1) := by decide +kernel
theorem d_PR_readString_19 : decode M_PR_readString.2.1 19 = .ok (.invokevirtual 52, 3) := by decide +kernel
theorem d_PR_readString_22 : decode M_PR_readString.2.1 22 = .ok (.iconst 1, 1) := by decide +kernel
theorem d_PR_readString_23 : decode M_PR_readString.2.1 23 = .ok (.if_icmp .ne 11, 3) := by decide +kernel
theorem d_PR_readString_26 : decode M_PR_readString.2.1 26 = .ok (.iload_n 2, 1) := by decide +kernel
theorem d_PR_readString_27 : decode M_PR_readString.2.1 27 = .ok (.istore_n 1, 1) := by decide +kernel
theorem d_PR_readString_28 : decode M_PR_readString.2.1 28 = .ok (.iinc 2 1, 3) := by decide +kernel
theorem d_PR_readString_31 : decode M_PR_readString.2.1 31 = .ok (.goto (-27), 3) := by decide +kernel
theorem d_PR_readString_34 : decode M_PR_readString.2.1 34 = .ok (.iload_n 1, 1) := by decide +kernel
theorem d_PR_readString_35 : decode M_PR_readString.2.1 35 = .ok (.ifCond .eq 23, 3) := by decide +kernel
theorem d_PR_readString_38 : decode M_PR_readString.2.1 38 = .ok (.aload_n 0, 1) := by decide +kernel
theorem d_PR_readString_39 : decode M_PR_readString.2.1 39 = .ok (.getfield 12, 3) := by decide +kernel
theorem d_PR_readString_42 : decode M_PR_readString.2.1 42 = .ok (.aload_n 0, 1) := by decide +kernel
theorem d_PR_readString_43 : decode M_PR_readString.2.1 43 = .ok (.getfield 42, 3) := by decide +kernel
theorem d_PR_readString_46 : decode M_PR_readString.2.1 46 = .ok (.iload_n 1, 1) := by decide +kernel
theorem d_PR_readString_47 : decode M_PR_readString.2.1 47 = .ok (.iadd, 1) := by decide +kernel
theorem d_PR_readString_48 : decode M_PR_readString.2.1 48 = .ok (.iconst 1, 1) := by decide +kernel
theorem d_PR_readString_49 : decode M_PR_readString.2.1 49 = .ok (.iadd, 1) := by decide +kernel
theorem d_PR_readString_50 : decode M_PR_readString.2.1 50 = .ok (.invokevirtual 52, 3) := by decide +kernel
theorem d_PR_readString_53 : decode M_PR_readString.2.1 53 = .ok (.bipush 8, 2) := by decide +kernel
theorem d_PR_readString_55 : decode M_PR_readString.2.1 55 = .ok (.if_icmp .eq 5, 3) := by decide +kernel
theorem d_PR_readString_58 : decode M_PR_readString.2.1 58 = .ok (.iconst 0, 1) := by decide +kernel
theorem d_PR_readString_59 : decode M_PR_readString.2.1 59 = .ok (.ireturn, 1) := by decide +kernel
theorem d_PR_readString_60 : decode M_PR_readString.2.1 60 = .ok (.aload_n 0, 1) := by decide +kernel
theorem d_PR_readString_61 : decode M_PR_readString.2.1 61 = .ok (.getfield 12, 3) := by decide +kernel
theorem d_PR_readString_64 : decode M_PR_readString.2.1 64 = .ok (.aload_n 0, 1) := by decide +kernel
theorem d_PR_readString_65 : decode M_PR_readString.2.1 65 = .ok (.getfield 42, 3) := by decide +kernel
theorem d_PR_readString_68 : decode M_PR_readString.2.1 68 = .ok (.iconst 1, 1) := by decide +kernel
theorem d_PR_readString_69 : decode M_PR_readString.2.1 69 = .ok (.iadd, 1) := by decide +kernel
theorem d_PR_readString_70 : decode M_PR_readString.2.1 70 = .ok (.invokevirtual 106, 3) := by decide +kernel
theorem d_PR_readString_73 : decode M_PR_readString.2.1 73 = .ok (.istore_n 2, 1) := by decide +kernel
theorem d_PR_readString_74 : decode M_PR_readString.2.1 74 = .ok (.iload_n 1, 1) := by decide +kernel
theorem d_PR_readString_75 : decode M_PR_readString.2.1 75 = .ok (.iconst 1, 1) := by decide +kernel
theorem d_PR_readString_76 : decode M_PR_readString.2.1 76 = .ok (.if_icmp .ne 20, 3) := by decide +kernel
theorem d_PR_readString_79 : decode M_PR_readString.2.1 79 = .ok (.aload_n 0, 1) := by decide +kernel
theorem d_PR_readString_80 : decode M_PR_readString.2.1 80 = .ok (.iload_n 2, 1) := by decide +kernel
theorem d_PR_readString_81 : decode M_PR_readString.2.1 81 = .ok (.iload_n 2, 1) := by decide +kernel
theorem d_PR_readString_82 : decode M_PR_readString.2.1 82 = .ok (.iconst 3, 1) := by decide +kernel
theorem d_PR_readString_83 : decode M_PR_readString.2.1 83 = .ok (.invokevirtual 119, 3) := by decide +kernel
theorem d_PR_readString_86 : decode M_PR_readString.2.1 86 = .ok (.aload_n 0, 1) := by decide +kernel
theorem d_PR_readString_87 : decode M_PR_readString.2.1 87 = .ok (.aload_n 0, 1) := by decide +kernel
theorem d_PR_readString_88 : decode M_PR_readString.2.1 88 = .ok (.getfield 27, 3) := by decide +kernel
theorem d_PR_readString_91 : decode M_PR_readString.2.1 91 = .ok (.iconst 0, 1) := by decide +kernel
theorem d_PR_readString_92 : decode M_PR_readString.2.1 92 = .ok (.invokevirtual 102, 3) := by decide +kernel
theorem d_PR_readString_95 : decode M_PR_readString.2.1 95 = .ok (.ireturn, 1) := by decide +kernel
theorem d_PR_readString_96 : decode M_PR_readString.2.1 96 = .ok (.iload_n 1, 1) := by decide +kernel
theorem d_PR_readString_97 : decode M_PR_readString.2.1 97 = .ok (.iconst 3, 1) := by decide +kernel
theorem d_PR_readString_98 : decode M_PR_readString.2.1 98 = .ok (.if_icmp .ne 19, 3) := by decide +kernel
theorem d_PR_readString_101 : decode M_PR_readString.2.1 101 = .ok (.aload_n 0, 1) := by decide +kernel
theorem d_PR_readString_102 : decode M_PR_readString.2.1 102 = .ok (.getfield 12, 3) := by decide +kernel
theorem d_PR_readString_105 : decode M_PR_readString.2.1 105 = .ok (.aload_n 0, 1) := by decide +kernel
theorem d_PR_readString_106 : decode M_PR_readString.2.1 106 = .ok (.getfield 42, 3) := by decide +kernel
theorem d_PR_readString_109 : decode M_PR_readString.2.1 109 = .ok (.iconst 3, 1) := by decide +kernel
theorem d_PR_readString_110 : decode M_PR_readString.2.1 110 = .ok (.iadd, 1) := by decide +kernel
theorem d_PR_readString_111 : decode M_PR_readString.2.1 111 = .ok (.invokevirtual 106, 3) := by decide +kernel
theorem d_PR_readString_114 : decode M_PR_readString.2.1 114 = .ok (.goto 4, 3) := by decide +kernel
theorem d_PR_readString_117 : decode M_PR_readString.2.1 117 = .ok (.iconst (-1), 1) := by decide +kernel
theorem d_PR_readString_118 : decode M_PR_readString.2.1 118 = .ok (.istore_n 3, 1) := by decide +kernel
theorem d_PR_readString_119 : decode M_PR_readString.2.1 119 = .ok (.aload_n 0, 1) := by decide +kernel
theorem d_PR_readString_120 : decode M_PR_readString.2.1 120 = .ok (.getfield 27, 3) := by decide +kernel
theorem d_PR_readString_123 : decode M_PR_readString.2.1 123 = .ok (.iload_n 2, 1) := by decide +kernel
theorem d_PR_readString_124 : decode M_PR_readString.2.1 124 = .ok (.aload_n 0, 1) := by decide +kernel
theorem d_PR_readString_125 : decode M_PR_readString.2.1 125 = .ok (.getfield 12, 3) := by decide +kernel
theorem d_PR_readString_128 : decode M_PR_readString.2.1 128 = .ok (.aload_n 0, 1) := by decide +kernel
theorem d_PR_readString_129 : decode M_PR_readString.2.1 129 = .ok (.getfield 42, 3) := by decide +kernel
theorem d_PR_readString_132 : decode M_PR_readString.2.1 132 = .ok (.iconst 2, 1) := by decide +kernel
theorem d_PR_readString_133 : decode M_PR_readString.2.1 133 = .ok (.iadd, 1) := by decide +kernel
theorem d_PR_readString_134 : decode M_PR_readString.2.1 134 = .ok (.invokevirtual 106, 3) := by decide +kernel
theorem d_PR_readString_137 : decode M_PR_readString.2.1 137 = .ok (.iload_n 3, 1) := by decide +kernel
theorem d_PR_readString_138 : decode M_PR_readString.2.1 138 = .ok (.invokestatic 123, 3) := by decide +kernel
theorem d_PR_readString_141 : decode M_PR_readString.2.1 141 = .ok (.invokevirtual 127, 3) := by decide +kernel
theorem d_PR_readString_144 : decode M_PR_readString.2.1 144 = .ok (.aload_n 0, 1) := by decide +kernel
theorem d_PR_readString_145 : decode M_PR_readString.2.1 145 = .ok (.dup, 1) := by decide +kernel
theorem d_PR_readString_146 : decode M_PR_readString.2.1 146 = .ok (.getfield 42, 3) := by decide +kernel
theorem d_PR_readString_149 : decode M_PR_readString.2.1 149 = .ok (.iload_n 1, 1) := by decide +kernel
theorem d_PR_readString_150 : decode M_PR_readString.2.1 150 = .ok (.iconst 2, 1) := by decide +kernel
theorem d_PR_readString_151 : decode M_PR_readString.2.1 151 = .ok (.iadd, 1) := by decide +kernel
theorem d_PR_readString_152 : decode M_PR_readString.2.1 152 = .ok (.iadd, 1) := by decide +kernel
theorem d_PR_readString_153 : decode M_PR_readString.2.1 153 = .ok (.putfield 42, 3) := by decide +kernel
theorem d_PR_readString_156 : decode M_PR_readString.2.1 156 = .ok (.aload_n 0, 1) := by decide +kernel
theorem d_PR_readString_157 : decode M_PR_readString.2.1 157 = .ok (.aload_n 0, 1) := by decide +kernel
theorem d_PR_readString_158 : decode M_PR_readString.2.1 158 = .ok (.getfield 27, 3) := by decide +kernel
theorem d_PR_readString_161 : decode M_PR_readString.2.1 161 = .ok (.iconst 0, 1) := by decide +kernel
theorem d_PR_readString_162 : decode M_PR_readString.2.1 162 = .ok (.invokevirtual 102, 3) := by decide +kernel
theorem d_PR_readString_165 : decode M_PR_readString.2.1 165 = .ok (.ireturn, 1) := by decide +kernel
theorem d_PR_readChar_0 : decode M_PR_readChar.2.1 0 = .ok (.aload_n 0, 1) := by decide +kernel
theorem d_PR_readChar_1 : decode M_PR_readChar.2.1 1 = .ok (.getfield 12, 3) := by decide +kernel
theorem d_PR_readChar_4 : decode M_PR_readChar.2.1 4 = .ok (.aload_n 0, 1) := by decide +kernel
theorem d_PR_readChar_5 : decode M_PR_readChar.2.1 5 = .ok (.getfield 42, 3) := by decide +kernel
theorem d_PR_readChar_8 : decode M_PR_readChar.2.1 8 = .ok (.invokevirtual 106, 3) := by decide +kernel
theorem d_PR_readChar_11 : decode M_PR_readChar.2.1 11 = .ok (.istore_n 1, 1) := by decide +kernel
theorem d_PR_readChar_12 : decode M_PR_readChar.2.1 12 = .ok (.aload_n 0, 1) := by decide +kernel
theorem d_PR_readChar_13 : decode M_PR_readChar.2.1 13 = .ok (.getfield 12, 3) := by decide +kernel
theorem d_PR_readChar_16 : decode M_PR_readChar.2.1 16 = .ok (.aload_n 0, 1) := by decide +kernel
theorem d_PR_readChar_17 : decode M_PR_readChar.2.1 17 = .ok (.getfield 42, 3) := by decide +kernel
theorem d_PR_readChar_20 : decode M_PR_readChar.2.1 20 = .ok (.iconst 1, 1) := by decide +kernel
theorem d_PR_readChar_21 : decode M_PR_readChar.2.1 21 = .ok (.iadd, 1) := by decide +kernel
theorem d_PR_readChar_22 : decode M_PR_readChar.2.1 22 = .ok (.invokevirtual 52, 3) := by decide +kernel
theorem d_PR_readChar_25 : decode M_PR_readChar.2.1 25 = .ok (.bipush 9, 2) := by decide +kernel
theorem d_PR_readChar_27 : decode M_PR_readChar.2.1 27 = .ok (.if_icmp .ne 21, 3) := by decide +kernel
theorem d_PR_readChar_30 : decode M_PR_readChar.2.1 30 = .ok (.aload_n 0, 1) := by decide +kernel
theorem d_PR_readChar_31 : decode M_PR_readChar.2.1 31 = .ok (.getfield 12, 3) := by decide +kernel
theorem d_PR_readChar_34 : decode M_PR_readChar.2.1 34 = .ok (.aload_n 0, 1) := by decide +kernel
theorem d_PR_readChar_35 : decode M_PR_readChar.2.1 35 = .ok (.getfield 42, 3) := by decide +kernel
theorem d_PR_readChar_38 : decode M_PR_readChar.2.1 38 = .ok (.iconst 2, 1) := by decide +kernel
theorem d_PR_readChar_39 : decode M_PR_readChar.2.1 39 = .ok (.iadd, 1) := by decide +kernel
theorem d_PR_readChar_40 : decode M_PR_readChar.2.1 40 = .ok (.invokevirtual 52, 3) := by decide +kernel
theorem d_PR_readChar_43 : decode M_PR_readChar.2.1 43 = .ok (.bipush 6, 2) := by decide +kernel
theorem d_PR_readChar_45 : decode M_PR_readChar.2.1 45 = .ok (.if_icmp .ne 20, 3) := by decide +kernel
theorem d_PR_readChar_48 : decode M_PR_readChar.2.1 48 = .ok (.aload_n 0, 1) := by decide +kernel
theorem d_PR_readChar_49 : decode M_PR_readChar.2.1 49 = .ok (.iload_n 1, 1) := by decide +kernel
theorem d_PR_readChar_50 : decode M_PR_readChar.2.1 50 = .ok (.iload_n 1, 1) := by decide +kernel
theorem d_PR_readChar_51 : decode M_PR_readChar.2.1 51 = .ok (.iconst 1, 1) := by decide +kernel
theorem d_PR_readChar_52 : decode M_PR_readChar.2.1 52 = .ok (.invokevirtual 119, 3) := by decide +kernel
theorem d_PR_readChar_55 : decode M_PR_readChar.2.1 55 = .ok (.aload_n 0, 1) := by decide +kernel
theorem d_PR_readChar_56 : decode M_PR_readChar.2.1 56 = .ok (.aload_n 0, 1) := by decide +kernel
theorem d_PR_readChar_57 : decode M_PR_readChar.2.1 57 = .ok (.getfield 27, 3) := by decide +kernel
theorem d_PR_readChar_60 : decode M_PR_readChar.2.1 60 = .ok (.iconst 0, 1) := by decide +kernel
theorem d_PR_readChar_61 : decode M_PR_readChar.2.1 61 = .ok (.invokevirtual 102, 3) := by decide +kernel
theorem d_PR_readChar_64 : decode M_PR_readChar.2.1 64 = .ok (.ireturn, 1) := by decide +kernel
theorem d_PR_readChar_65 : decode M_PR_readChar.2.1 65 = .ok (.aload_n 0, 1) := by decide +kernel
theorem d_PR_readChar_66 : decode M_PR_readChar.2.1 66 = .ok (.getfield 12, 3) := by decide +kernel
theorem d_PR_readChar_69 : decode M_PR_readChar.2.1 69 = .ok (.aload_n 0, 1) := by decide +kernel
theorem d_PR_readChar_70 : decode M_PR_readChar.2.1 70 = .ok (.getfield 42, 3) := by decide +kernel
theorem d_PR_readChar_73 : decode M_PR_readChar.2.1 73 = .ok (.iconst 2, 1) := by decide +kernel
theorem d_PR_readChar_74 : decode M_PR_readChar.2.1 74 = .ok (.iadd, 1) := by decide +kernel
theorem d_PR_readChar_75 : decode M_PR_readChar.2.1 75 = .ok (.invokevirtual 106, 3) := by decide +kernel
theorem d_PR_readChar_78 : decode M_PR_readChar.2.1 78 = .ok (.istore_n 2, 1) := by decide +kernel
theorem d_PR_readChar_79 : decode M_PR_readChar.2.1 79 = .ok (.aload_n 0, 1) := by decide +kernel
theorem d_PR_readChar_80 : decode M_PR_readChar.2.1 80 = .ok (.getfield 12, 3) := by decide +kernel
theorem d_PR_readChar_83 : decode M_PR_readChar.2.1 83 = .ok (.aload_n 0, 1) := by decide +kernel
theorem d_PR_readChar_84 : decode M_PR_readChar.2.1 84 = .ok (.getfield 42, 3) := by decide +kernel
theorem d_PR_readChar_87 : decode M_PR_readChar.2.1 87 = .ok (.iconst 2, 1) := by decide +kernel
theorem d_PR_readChar_88 : decode M_PR_readChar.2.1 88 = .ok (.iadd, 1) := by decide +kernel
theorem d_PR_readChar_89 : decode M_PR_readChar.2.1 89 = .ok (.invokevirtual 52, 3) := by decide +kernel
theorem d_PR_readChar_92 : decode M_PR_readChar.2.1 92 = .ok (.iconst 1, 1) := by decide +kernel
theorem d_PR_readChar_93 : decode M_PR_readChar.2.1 93 = .ok (.if_icmp .ne 8, 3) := by decide +kernel
theorem d_PR_readChar_96 : decode M_PR_readChar.2.1 96 = .ok (.iload_n 2, 1) := by decide +kernel
theorem d_PR_readChar_97 : decode M_PR_readChar.2.1 97 = .ok (.iload_n 1, 1) := by decide +kernel
theorem d_PR_readChar_98 : decode M_PR_readChar.2.1 98 = .ok (.if_icmp .ge 5, 3) := by decide +kernel
theorem d_PR_readChar_101 : decode M_PR_readChar.2.1 101 = .ok (.iconst 0, 1) := by decide +kernel
theorem d_PR_readChar_102 : decode M_PR_readChar.2.1 102 = .ok (.ireturn, 1) := by decide +kernel
theorem d_PR_readChar_103 : decode M_PR_readChar.2.1 103 = .ok (.aload_n 0, 1) := by decide +kernel
theorem d_PR_readChar_104 : decode M_PR_readChar.2.1 104 = .ok (.iload_n 1, 1) := by decide +kernel
theorem d_PR_readChar_105 : decode M_PR_readChar.2.1 105 = .ok (.iload_n 2, 1) := by decide +kernel
theorem d_PR_readChar_106 : decode M_PR_readChar.2.1 106 = .ok (.iconst 3, 1) := by decide +kernel
theorem d_PR_readChar_107 : decode M_PR_readChar.2.1 107 = .ok (.invokevirtual 119, 3) := by decide +kernel
theorem d_PR_readChar_110 : decode M_PR_readChar.2.1 110 = .ok (.aload_n 0, 1) := by decide +kernel
theorem d_PR_readChar_111 : decode M_PR_readChar.2.1 111 = .ok (.aload_n 0, 1) := by decide +kernel
theorem d_PR_readChar_112 : decode M_PR_readChar.2.1 112 = .ok (.getfield 27, 3) := by decide +kernel
theorem d_PR_readChar_115 : decode M_PR_readChar.2.1 115 = .ok (.iconst 0, 1) := by decide +kernel
theorem d_PR_readChar_116 : decode M_PR_readChar.2.1 116 = .ok (.invokevirtual 102, 3) := by decide +kernel
theorem d_PR_readChar_119 : decode M_PR_readChar.2.1 119 = .ok (.ireturn, 1) := by decide +kernel
theorem d_PR_readHyphen_0 : decode M_PR_readHyphen.2.1 0 = .ok (.aload_n 0, 1) := by decide +kernel
theorem d_PR_readHyphen_1 : decode M_PR_readHyphen.2.1 1 = .ok (.invokevirtual 86, 3) := by decide +kernel
theorem d_PR_readHyphen_4 : decode M_PR_readHyphen.2.1 4 = .ok (.getfield 131, 3) := by decide +kernel
theorem d_PR_readHyphen_7 : decode M_PR_readHyphen.2.1 7 = .ok (.ifCond .eq 21, 3) := by decide +kernel
theorem d_PR_readHyphen_10 : decode M_PR_readHyphen.2.1 10 = .ok (.aload_n 0, 1) := by decide +kernel
theorem d_PR_readHyphen_11 : decode M_PR_readHyphen.2.1 11 = .ok (.getfield 12, 3) := by decide +kernel
theorem d_PR_readHyphen_14 : decode M_PR_readHyphen.2.1 14 = .ok (.aload_n 0, 1) := by decide +kernel
theorem d_PR_readHyphen_15 : decode M_PR_readHyphen.2.1 15 = .ok (.getfield 42, 3) := by decide +kernel
theorem d_PR_readHyphen_18 : decode M_PR_readHyphen.2.1 18 = .ok (.iconst 1, 1) := by decide +kernel
theorem d_PR_readHyphen_19 : decode M_PR_readHyphen.2.1 19 = .ok (.iadd, 1) := by decide +kernel
theorem d_PR_readHyphen_20 : decode M_PR_readHyphen.2.1 20 = .ok (.invokevirtual 52, 3) := by decide +kernel
theorem d_PR_readHyphen_23 : decode M_PR_readHyphen.2.1 23 = .ok (.bipush 6, 2) := by decide +kernel
theorem d_PR_readHyphen_25 : decode M_PR_readHyphen.2.1 25 = .ok (.if_icmp .ne 22, 3) := by decide +kernel
theorem d_PR_readHyphen_28 : decode M_PR_readHyphen.2.1 28 = .ok (.aload_n 0, 1) := by decide +kernel
theorem d_PR_readHyphen_29 : decode M_PR_readHyphen.2.1 29 = .ok (.bipush 45, 2) := by decide +kernel
theorem d_PR_readHyphen_31 : decode M_PR_readHyphen.2.1 31 = .ok (.bipush 45, 2) := by decide +kernel
theorem d_PR_readHyphen_33 : decode M_PR_readHyphen.2.1 33 = .ok (.iconst 1, 1) := by decide +kernel
theorem d_PR_readHyphen_34 : decode M_PR_readHyphen.2.1 34 = .ok (.invokevirtual 119, 3) := by decide +kernel
theorem d_PR_readHyphen_37 : decode M_PR_readHyphen.2.1 37 = .ok (.aload_n 0, 1) := by decide +kernel
theorem d_PR_readHyphen_38 : decode M_PR_readHyphen.2.1 38 = .ok (.aload_n 0, 1) := by decide +kernel
theorem d_PR_readHyphen_39 : decode M_PR_readHyphen.2.1 39 = .ok (.getfield 27, 3) := by decide +kernel
theorem d_PR_readHyphen_42 : decode M_PR_readHyphen.2.1 42 = .ok (.iconst 0, 1) := by decide +kernel
theorem d_PR_readHyphen_43 : decode M_PR_readHyphen.2.1 43 = .ok (.invokevirtual 102, 3) := by decide +kernel
theorem d_PR_readHyphen_46 : decode M_PR_readHyphen.2.1 46 = .ok (.ireturn, 1) := by decide +kernel
theorem d_PR_readHyphen_47 : decode M_PR_readHyphen.2.1 47 = .ok (.aload_n 0, 1) := by decide +kernel
theorem d_PR_readHyphen_48 : decode M_PR_readHyphen.2.1 48 = .ok (.iconst 2, 1) := by decide +kernel
theorem d_PR_readHyphen_49 : decode M_PR_readHyphen.2.1 49 = .ok (.invokevirtual 79, 3) := by decide +kernel
theorem d_PR_readHyphen_52 : decode M_PR_readHyphen.2.1 52 = .ok (.ireturn, 1) := by decide +kernel
theorem d_PR_readSign_0 : decode M_PR_readSign.2.1 0 = .ok (.aload_n 0, 1) := by decide +kernel
theorem d_PR_readSign_1 : decode M_PR_readSign.2.1 1 = .ok (.invokevirtual 86, 3) := by decide +kernel
theorem d_PR_readSign_4 : decode M_PR_readSign.2.1 4 = .ok (.astore_n 2, 1) := by decide +kernel
theorem d_PR_readSign_5 : decode M_PR_readSign.2.1 5 = .ok (.aload_n 2, 1) := by decide +kernel
theorem d_PR_readSign_6 : decode M_PR_readSign.2.1 6 = .ok (.getfield 134, 3) := by decide +kernel
theorem d_PR_readSign_9 : decode M_PR_readSign.2.1 9 = .ok (.ifCond .eq 19, 3) := by decide +kernel
theorem d_PR_readSign_12 : decode M_PR_readSign.2.1 12 = .ok (.aload_n 0, 1) := by decide +kernel
theorem d_PR_readSign_13 : decode M_PR_readSign.2.1 13 = .ok (.getfield 12, 3) := by decide +kernel
theorem d_PR_readSign_16 : decode M_PR_readSign.2.1 16 = .ok (.aload_n 0, 1) := by decide +kernel
theorem d_PR_readSign_17 : decode M_PR_readSign.2.1 17 = .ok (.getfield 42, 3) := by decide +kernel
theorem d_PR_readSign_20 : decode M_PR_readSign.2.1 20 = .ok (.iconst 1, 1) := by decide +kernel
theorem d_PR_readSign_21 : decode M_PR_readSign.2.1 21 = .ok (.iadd, 1) := by decide +kernel
theorem d_PR_readSign_22 : decode M_PR_readSign.2.1 22 = .ok (.invokevirtual 56, 3) := by decide +kernel
theorem d_PR_readSign_25 : decode M_PR_readSign.2.1 25 = .ok (.ifCond .ne 5, 3) := by decide +kernel
theorem d_PR_readSign_28 : decode M_PR_readSign.2.1 28 = .ok (.iconst 0, 1) := by decide +kernel
theorem d_PR_readSign_29 : decode M_PR_readSign.2.1 29 = .ok (.ireturn, 1) := by decide +kernel
theorem d_PR_readSign_30 : decode M_PR_readSign.2.1 30 = .ok (.aload_n 2, 1) := by decide +kernel
theorem d_PR_readSign_31 : decode M_PR_readSign.2.1 31 = .ok (.iload_n 1, 1) := by decide +kernel
theorem d_PR_readSign_32 : decode M_PR_readSign.2.1 32 = .ok (.putfield 137, 3) := by decide +kernel
theorem d_PR_readSign_35 : decode M_PR_readSign.2.1 35 = .ok (.aload_n 0, 1) := by decide +kernel
theorem d_PR_readSign_36 : decode M_PR_readSign.2.1 36 = .ok (.dup, 1) := by decide +kernel
theorem d_PR_readSign_37 : decode M_PR_readSign.2.1 37 = .ok (.getfield 42, 3) := by decide +kernel
theorem d_PR_readSign_40 : decode M_PR_readSign.2.1 40 = .ok (.iconst 1, 1) := by decide +kernel
theorem d_PR_readSign_41 : decode M_PR_readSign.2.1 41 = .ok (.iadd, 1) := by decide +kernel
theorem d_PR_readSign_42 : decode M_PR_readSign.2.1 42 = .ok (.putfield 42, 3) := by decide +kernel
theorem d_PR_readSign_45 : decode M_PR_readSign.2.1 45 = .ok (.iconst 1, 1) := by decide +kernel
theorem d_PR_readSign_46 : decode M_PR_readSign.2.1 46 = .ok (.ireturn, 1) := by decide +kernel
theorem d_PR_takeRange_0 : decode M_PR_takeRange.2.1 0 = .ok (.aload_n 0, 1) := by decide +kernel
theorem d_PR_takeRange_1 : decode M_PR_takeRange.2.1 1 = .ok (.getfield 27, 3) := by decide +kernel
theorem d_PR_takeRange_4 : decode M_PR_takeRange.2.1 4 = .ok (.invokevirtual 140, 3) := by decide +kernel
theorem d_PR_takeRange_7 : decode M_PR_takeRange.2.1 7 = .ok (.aload_n 0, 1) := by decide +kernel
theorem d_PR_takeRange_8 : decode M_PR_takeRange.2.1 8 = .ok (.getfield 27, 3) := by decide +kernel
theorem d_PR_takeRange_11 : decode M_PR_takeRange.2.1 11 = .ok (.iload_n 1, 1) := by decide +kernel
theorem d_PR_takeRange_12 : decode M_PR_takeRange.2.1 12 = .ok (.iload_n 2, 1) := by decide +kernel
theorem d_PR_takeRange_13 : decode M_PR_takeRange.2.1 13 = .ok (.invokevirtual 143, 3) := by decide +kernel
theorem d_PR_takeRange_16 : decode M_PR_takeRange.2.1 16 = .ok (.aload_n 0, 1) := by decide +kernel
theorem d_PR_takeRange_17 : decode M_PR_takeRange.2.1 17 = .ok (.dup, 1) := by decide +kernel
theorem d_PR_takeRange_18 : decode M_PR_takeRange.2.1 18 = .ok (.getfield 42, 3) := by decide +kernel
theorem d_PR_takeRange_21 : decode M_PR_takeRange.2.1 21 = .ok (.iload_n 3, 1) := by decide +kernel
theorem d_PR_takeRange_22 : decode M_PR_takeRange.2.1 22 = .ok (.iadd, 1) := by decide +kernel
theorem d_PR_takeRange_23 : decode M_PR_takeRange.2.1 23 = .ok (.putfield 42, 3) := by decide +kernel
theorem d_PR_takeRange_26 : decode M_PR_takeRange.2.1 26 = .ok (.return_, 1) := by decide +kernel
theorem d_PR_join_0 : decode M_PR_join.2.1 0 = .ok (.aload_n 0, 1) := by decide +kernel
theorem d_PR_join_1 : decode M_PR_join.2.1 1 = .ok (.getfield 38, 3) := by decide +kernel
theorem d_PR_join_4 : decode M_PR_join.2.1 4 = .ok (.ifCond .ne 10, 3) := by decide +kernel
theorem d_PR_join_7 : decode M_PR_join.2.1 7 = .ok (.aload_n 0, 1) := by decide +kernel
theorem d_PR_join_8 : decode M_PR_join.2.1 8 = .ok (.aload_n 1, 1) := by decide +kernel
theorem d_PR_join_9 : decode M_PR_join.2.1 9 = .ok (.putfield 34, 3) := by decide +kernel
theorem d_PR_join_12 : decode M_PR_join.2.1 12 = .ok (.iconst 1, 1) := by decide +kernel
theorem d_PR_join_13 : decode M_PR_join.2.1 13 = .ok (.ireturn, 1) := by decide +kernel
theorem d_PR_join_14 : decode M_PR_join.2.1 14 = .ok (.aload_n 0, 1) := by decide +kernel
theorem d_PR_join_15 : decode M_PR_join.2.1 15 = .ok (.invokevirtual 86, 3) := by decide +kernel
theorem d_PR_join_18 : decode M_PR_join.2.1 18 = .ok (.astore_n 3, 1) := by decide +kernel
theorem d_PR_join_19 : decode M_PR_join.2.1 19 = .ok (.aload_n 0, 1) := by decide +kernel
theorem d_PR_join_20 : decode M_PR_join.2.1 20 = .ok (.getfield 31, 3) := by decide +kernel
theorem d_PR_join_23 : decode M_PR_join.2.1 23 = .ok (.aload_n 3, 1) := by decide +kernel
theorem d_PR_join_24 : decode M_PR_join.2.1 24 = .ok (.getfield 94, 3) := by decide +kernel
theorem d_PR_join_27 : decode M_PR_join.2.1 27 = .ok (.aload_n 1, 1) := by decide +kernel
theorem d_PR_join_28 : decode M_PR_join.2.1 28 = .ok (.aload_n 3, 1) := by decide +kernel
theorem d_PR_join_29 : decode M_PR_join.2.1 29 = .ok (.getfield 137, 3) := by decide +kernel
theorem d_PR_join_32 : decode M_PR_join.2.1 32 = .ok (.invokevirtual 147, 3) := by decide +kernel
theorem d_PR_join_35 : decode M_PR_join.2.1 35 = .ok (.aload_n 3, 1) := by decide +kernel
theorem d_PR_join_36 : decode M_PR_join.2.1 36 = .ok (.getfield 94, 3) := by decide +kernel
theorem d_PR_join_39 : decode M_PR_join.2.1 39 = .ok (.astore 4, 2) := by decide +kernel
theorem d_PR_join_41 : decode M_PR_join.2.1 41 = .ok (.aload_n 3, 1) := by decide +kernel
theorem d_PR_join_42 : decode M_PR_join.2.1 42 = .ok (.aload_n 0, 1) := by decide +kernel
theorem d_PR_join_43 : decode M_PR_join.2.1 43 = .ok (.getfield 31, 3) := by decide +kernel
theorem d_PR_join_46 : decode M_PR_join.2.1 46 = .ok (.putfield 94, 3) := by decide +kernel
theorem d_PR_join_49 : decode M_PR_join.2.1 49 = .ok (.aload_n 0, 1) := by decide +kernel
theorem d_PR_join_50 : decode M_PR_join.2.1 50 = .ok (.aload 4, 2) := by decide +kernel
theorem d_PR_join_52 : decode M_PR_join.2.1 52 = .ok (.putfield 31, 3) := by decide +kernel
theorem d_PR_join_55 : decode M_PR_join.2.1 55 = .ok (.aload_n 3, 1) := by decide +kernel
theorem d_PR_join_56 : decode M_PR_join.2.1 56 = .ok (.iconst 0, 1) := by decide +kernel
theorem d_PR_join_57 : decode M_PR_join.2.1 57 = .ok (.putfield 137, 3) := by decide +kernel
theorem d_PR_join_60 : decode M_PR_join.2.1 60 = .ok (.aload_n 3, 1) := by decide +kernel
theorem d_PR_join_61 : decode M_PR_join.2.1 61 = .ok (.iload_n 2, 1) := by decide +kernel
theorem d_PR_join_62 : decode M_PR_join.2.1 62 = .ok (.putfield 134, 3) := by decide +kernel
theorem d_PR_join_65 : decode M_PR_join.2.1 65 = .ok (.aload_n 3, 1) := by decide +kernel
theorem d_PR_join_66 : decode M_PR_join.2.1 66 = .ok (.dup, 1) := by decide +kernel
theorem d_PR_join_67 : decode M_PR_join.2.1 67 = .ok (.getfield 131, 3) := by decide +kernel
theorem d_PR_join_70 : decode M_PR_join.2.1 70 = .ok (.iconst 1, 1) := by decide +kernel
theorem d_PR_join_71 : decode M_PR_join.2.1 71 = .ok (.iadd, 1) := by decide +kernel
theorem d_PR_join_72 : decode M_PR_join.2.1 72 = .ok (.putfield 131, 3) := by decide +kernel
theorem d_PR_join_75 : decode M_PR_join.2.1 75 = .ok (.aload_n 3, 1) := by decide +kernel
theorem d_PR_join_76 : decode M_PR_join.2.1 76 = .ok (.getfield 94, 3) := by decide +kernel
theorem d_PR_join_79 : decode M_PR_join.2.1 79 = .ok (.getfield 95, 3) := by decide +kernel
theorem d_PR_join_82 : decode M_PR_join.2.1 82 = .ok (.bipush 8, 2) := by decide +kernel
theorem d_PR_join_84 : decode M_PR_join.2.1 84 = .ok (.if_icmp .gt 7, 3) := by decide +kernel
theorem d_PR_join_87 : decode M_PR_join.2.1 87 = .ok (.iconst 1, 1) := by decide +kernel
theorem d_PR_join_88 : decode M_PR_join.2.1 88 = .ok (.goto 4, 3) := by decide +kernel
theorem d_PR_join_91 : decode M_PR_join.2.1 91 = .ok (.iconst 0, 1) := by decide +kernel
theorem d_PR_join_92 : decode M_PR_join.2.1 92 = .ok (.ireturn, 1) := by decide +kernel
theorem d_PR_innermost_0 : decode M_PR_innermost.2.1 0 = .ok (.aload_n 0, 1) := by decide +kernel
theorem d_PR_innermost_1 : decode M_PR_innermost.2.1 1 = .ok (.getfield 20, 3) := by decide +kernel
theorem d_PR_innermost_4 : decode M_PR_innermost.2.1 4 = .ok (.aload_n 0, 1) := by decide +kernel
theorem d_PR_innermost_5 : decode M_PR_innermost.2.1 5 = .ok (.getfield 38, 3) := by decide +kernel
theorem d_PR_innermost_8 : decode M_PR_innermost.2.1 8 = .ok (.ifCond .le 12, 3) := by decide +kernel
theorem d_PR_innermost_11 : decode M_PR_innermost.2.1 11 = .ok (.aload_n 0, 1) := by decide +kernel
theorem d_PR_innermost_12 : decode M_PR_innermost.2.1 12 = .ok (.getfield 38, 3) := by decide +kernel
theorem d_PR_innermost_15 : decode M_PR_innermost.2.1 15 = .ok (.iconst 1, 1) := by decide +kernel
theorem d_PR_innermost_16 : decode M_PR_innermost.2.1 16 = .ok (.isub, 1) := by decide +kernel
theorem d_PR_innermost_17 : decode M_PR_innermost.2.1 17 = .ok (.goto 4, 3) := by decide +kernel
theorem d_PR_innermost_20 : decode M_PR_innermost.2.1 20 = .ok (.iconst 0, 1) := by decide +kernel
theorem d_PR_innermost_21 : decode M_PR_innermost.2.1 21 = .ok (.aaload, 1) := by decide +kernel
theorem d_PR_innermost_22 : decode M_PR_innermost.2.1 22 = .ok (.areturn, 1) := by decide +kernel
end
section
/-! CaseRules: written by wip/gen/ca.py -/
/-- the tables of ints that the class holds as statics, in the order of wSF -/
def tabL : List (List Nat) := [[0, 1114112], [0, 128], [48, 58], [48, 58, 65, 71, 97, 103], [65, 91, 192, 215, 216, 223], [97, 123, 223, 247, 248, 256], [65, 91, 97, 123, 170, 171, 181, 182, 186, 187, 192, 215, 216, 247, 248, 256, 880, 1024], [880, 1024], [9, 14, 32, 33, 133, 134, 160, 161], [55296, 57344], [65, 91, 97, 123, 192, 215, 216, 223, 224, 247, 248, 255, 383, 384, 931, 932, 962, 964, 8490, 8492], [65, 91, 192, 215, 216, 223], [75, 107, 8490, 83, 115, 383, 197, 229, 8491, 931, 962, 963]]
def xTab (X : wX) : Prop := ∀ (i : Nat) (T : List Nat), tabL[i]? = some T → (xo X)[i]? = some (T.length, fun j => nI (T.getD j 0))
def isLg (c : Nat) : Bool := decide ((65 ≤ c ∧ c < 91) ∨ (192 ≤ c ∧ c < 215) ∨ (216 ≤ c ∧ c < 223))
/-- one of the triples in which c stands has a member -/
def alk3 (E : List Nat) (c : Nat) : Bool :=
  if c = 75 ∨ c = 107 ∨ c = 8490 then eMem E 75 || eMem E 107 || eMem E 8490
  else if c = 83 ∨ c = 115 ∨ c = 383 then eMem E 83 || eMem E 115 || eMem E 383
  else if c = 197 ∨ c = 229 ∨ c = 8491 then eMem E 197 || eMem E 229 || eMem E 8491
  else if c = 931 ∨ c = 962 ∨ c = 963 then eMem E 931 || eMem E 962 || eMem E 963
  else false
def alk (E : List Nat) (c : Nat) : Bool := (isLg c && eMem E (c + 32)) || (isLg (c - 32) && eMem E (c - 32)) || alk3 E c
theorem bI_t {b : Bool} (h : ¬ bI b = 0) : b = true := by cases b with | true => rfl | false => exact absurd rfl h
theorem bI_f {b : Bool} (h : bI b = 0) : b = false := by cases b with | true => exact absurd h (by decide) | false => rfl
section CA
variable {X : wX}
set_option maxHeartbeats 4000000 in
set_option maxRecDepth 100000 in
theorem m_CA_isLarge (hT : xTab X) {h : wH} {c : Nat} (hc : c < 2 ^ 31) : PM X M_CA_isLarge 0 0 0 [.int (nI c)] h (fun r h' => r = some (.int (bI (isLg c))) ∧ h' = h) := by
  refine PM.at (pl := [some (.int (nI c)), none]) rfl rfl (by simp [wle, wen]) ?_
  generalize hEN : wEm X 0 0 _ = EN
  refine w_iconst (v := nI 0) d_CA_isLarge_0 (by decide) ?_
  refine w_istore_n d_CA_isLarge_1 (by decide) ?_
  refine w_iload_n d_CA_isLarge_2 rfl ?_
  refine w_iconst (v := nI 1) d_CA_isLarge_3 (by decide) ?_
  refine w_iadd d_CA_isLarge_4 ?_
  refine w_topi (y := nI 1) (by decide) ?_
  refine w_gets (i := 11) d_CA_isLarge_5 (by decide +kernel) g_CA_36 ?_
  refine w_tlen (v := nI 6) d_CA_isLarge_8 (hT 11 _ rfl) rfl ?_
  refine w_icmp_ge (tgt := 40) d_CA_isLarge_9 rfl (fun z => absurd z (by decide)) (fun _ => ?_)
  refine w_iload_n d_CA_isLarge_12 rfl ?_
  refine w_gets (i := 11) d_CA_isLarge_13 (by decide +kernel) g_CA_36 ?_
  refine w_iload_n d_CA_isLarge_16 rfl ?_
  refine w_ti d_CA_isLarge_17 (hT 11 _ rfl) (vp_in_nI (by decide) (by decide)) ?_
  refine w_topi (y := nI 65) (by decide) ?_
  suffices J34 : ¬ (65 ≤ c ∧ c < 91) → WP X M_CA_isLarge (wR 0 0 0) 0 EN 0 0 34 [some (.int (nI c)), some (.int (nI 0))] [] h by
    refine w_icmp_lt (tgt := 34) d_CA_isLarge_18 rfl (fun c18 => ?_) (fun c18 => ?_)
    · have c18 := (nI_ltI (a := c) (b := 65) hc (by decide)).mp c18
      exact J34 (by omega)
    · have c18 : ¬ c < 65 := fun z => c18 ((nI_ltI (a := c) (b := 65) hc (by decide)).mpr z)
      refine w_iload_n d_CA_isLarge_21 rfl ?_
      refine w_gets (i := 11) d_CA_isLarge_22 (by decide +kernel) g_CA_36 ?_
      refine w_iload_n d_CA_isLarge_25 rfl ?_
      refine w_iconst (v := nI 1) d_CA_isLarge_26 (by decide) ?_
      refine w_iadd d_CA_isLarge_27 ?_
      refine w_topi (y := nI 1) (by decide) ?_
      refine w_ti d_CA_isLarge_28 (hT 11 _ rfl) (vp_in_nI (by decide) (by decide)) ?_
      refine w_topi (y := nI 91) (by decide) ?_
      refine w_icmp_ge (tgt := 34) d_CA_isLarge_29 rfl (fun c29 => ?_) (fun c29 => ?_)
      · have c29 := (nI_leI (a := 91) (b := c) (by decide) hc).mp c29
        exact J34 (by omega)
      · have c29 : c < 91 := Nat.not_le.mp (fun z => c29 ((nI_leI (a := 91) (b := c) (by decide) hc).mpr z))
        refine w_iconst (v := nI 1) d_CA_isLarge_32 (by decide) ?_
        rw [← hEN]
        refine w_zret d_CA_isLarge_33 rfl (by first | exact Or.inl rfl | exact Or.inr rfl) ?_
        rw [show isLg c = true from decide_eq_true (by omega)]
        exact ⟨rfl, rfl⟩
  intro n65
  refine w_iinc (v := nI 2) d_CA_isLarge_34 rfl (by decide) (by decide) ?_
  refine w_goto (tgt := 2) d_CA_isLarge_37 rfl ?_
  refine w_iload_n d_CA_isLarge_2 rfl ?_
  refine w_iconst (v := nI 1) d_CA_isLarge_3 (by decide) ?_
  refine w_iadd d_CA_isLarge_4 ?_
  refine w_topi (y := nI 3) (by decide) ?_
  refine w_gets (i := 11) d_CA_isLarge_5 (by decide +kernel) g_CA_36 ?_
  refine w_tlen (v := nI 6) d_CA_isLarge_8 (hT 11 _ rfl) rfl ?_
  refine w_icmp_ge (tgt := 40) d_CA_isLarge_9 rfl (fun z => absurd z (by decide)) (fun _ => ?_)
  refine w_iload_n d_CA_isLarge_12 rfl ?_
  refine w_gets (i := 11) d_CA_isLarge_13 (by decide +kernel) g_CA_36 ?_
  refine w_iload_n d_CA_isLarge_16 rfl ?_
  refine w_ti d_CA_isLarge_17 (hT 11 _ rfl) (vp_in_nI (by decide) (by decide)) ?_
  refine w_topi (y := nI 192) (by decide) ?_
  suffices J34 : ¬ (192 ≤ c ∧ c < 215) → WP X M_CA_isLarge (wR 0 0 0) 0 EN 0 0 34 [some (.int (nI c)), some (.int (nI 2))] [] h by
    refine w_icmp_lt (tgt := 34) d_CA_isLarge_18 rfl (fun c18 => ?_) (fun c18 => ?_)
    · have c18 := (nI_ltI (a := c) (b := 192) hc (by decide)).mp c18
      exact J34 (by omega)
    · have c18 : ¬ c < 192 := fun z => c18 ((nI_ltI (a := c) (b := 192) hc (by decide)).mpr z)
      refine w_iload_n d_CA_isLarge_21 rfl ?_
      refine w_gets (i := 11) d_CA_isLarge_22 (by decide +kernel) g_CA_36 ?_
      refine w_iload_n d_CA_isLarge_25 rfl ?_
      refine w_iconst (v := nI 1) d_CA_isLarge_26 (by decide) ?_
      refine w_iadd d_CA_isLarge_27 ?_
      refine w_topi (y := nI 3) (by decide) ?_
      refine w_ti d_CA_isLarge_28 (hT 11 _ rfl) (vp_in_nI (by decide) (by decide)) ?_
      refine w_topi (y := nI 215) (by decide) ?_
      refine w_icmp_ge (tgt := 34) d_CA_isLarge_29 rfl (fun c29 => ?_) (fun c29 => ?_)
      · have c29 := (nI_leI (a := 215) (b := c) (by decide) hc).mp c29
        exact J34 (by omega)
      · have c29 : c < 215 := Nat.not_le.mp (fun z => c29 ((nI_leI (a := 215) (b := c) (by decide) hc).mpr z))
        refine w_iconst (v := nI 1) d_CA_isLarge_32 (by decide) ?_
        rw [← hEN]
        refine w_zret d_CA_isLarge_33 rfl (by first | exact Or.inl rfl | exact Or.inr rfl) ?_
        rw [show isLg c = true from decide_eq_true (by omega)]
        exact ⟨rfl, rfl⟩
  intro n192
  refine w_iinc (v := nI 4) d_CA_isLarge_34 rfl (by decide) (by decide) ?_
  refine w_goto (tgt := 2) d_CA_isLarge_37 rfl ?_
  refine w_iload_n d_CA_isLarge_2 rfl ?_
  refine w_iconst (v := nI 1) d_CA_isLarge_3 (by decide) ?_
  refine w_iadd d_CA_isLarge_4 ?_
  refine w_topi (y := nI 5) (by decide) ?_
  refine w_gets (i := 11) d_CA_isLarge_5 (by decide +kernel) g_CA_36 ?_
  refine w_tlen (v := nI 6) d_CA_isLarge_8 (hT 11 _ rfl) rfl ?_
  refine w_icmp_ge (tgt := 40) d_CA_isLarge_9 rfl (fun z => absurd z (by decide)) (fun _ => ?_)
  refine w_iload_n d_CA_isLarge_12 rfl ?_
  refine w_gets (i := 11) d_CA_isLarge_13 (by decide +kernel) g_CA_36 ?_
  refine w_iload_n d_CA_isLarge_16 rfl ?_
  refine w_ti d_CA_isLarge_17 (hT 11 _ rfl) (vp_in_nI (by decide) (by decide)) ?_
  refine w_topi (y := nI 216) (by decide) ?_
  suffices J34 : ¬ (216 ≤ c ∧ c < 223) → WP X M_CA_isLarge (wR 0 0 0) 0 EN 0 0 34 [some (.int (nI c)), some (.int (nI 4))] [] h by
    refine w_icmp_lt (tgt := 34) d_CA_isLarge_18 rfl (fun c18 => ?_) (fun c18 => ?_)
    · have c18 := (nI_ltI (a := c) (b := 216) hc (by decide)).mp c18
      exact J34 (by omega)
    · have c18 : ¬ c < 216 := fun z => c18 ((nI_ltI (a := c) (b := 216) hc (by decide)).mpr z)
      refine w_iload_n d_CA_isLarge_21 rfl ?_
      refine w_gets (i := 11) d_CA_isLarge_22 (by decide +kernel) g_CA_36 ?_
      refine w_iload_n d_CA_isLarge_25 rfl ?_
      refine w_iconst (v := nI 1) d_CA_isLarge_26 (by decide) ?_
      refine w_iadd d_CA_isLarge_27 ?_
      refine w_topi (y := nI 5) (by decide) ?_
      refine w_ti d_CA_isLarge_28 (hT 11 _ rfl) (vp_in_nI (by decide) (by decide)) ?_
      refine w_topi (y := nI 223) (by decide) ?_
      refine w_icmp_ge (tgt := 34) d_CA_isLarge_29 rfl (fun c29 => ?_) (fun c29 => ?_)
      · have c29 := (nI_leI (a := 223) (b := c) (by decide) hc).mp c29
        exact J34 (by omega)
      · have c29 : c < 223 := Nat.not_le.mp (fun z => c29 ((nI_leI (a := 223) (b := c) (by decide) hc).mpr z))
        refine w_iconst (v := nI 1) d_CA_isLarge_32 (by decide) ?_
        rw [← hEN]
        refine w_zret d_CA_isLarge_33 rfl (by first | exact Or.inl rfl | exact Or.inr rfl) ?_
        rw [show isLg c = true from decide_eq_true (by omega)]
        exact ⟨rfl, rfl⟩
  intro n216
  refine w_iinc (v := nI 6) d_CA_isLarge_34 rfl (by decide) (by decide) ?_
  refine w_goto (tgt := 2) d_CA_isLarge_37 rfl ?_
  refine w_iload_n d_CA_isLarge_2 rfl ?_
  refine w_iconst (v := nI 1) d_CA_isLarge_3 (by decide) ?_
  refine w_iadd d_CA_isLarge_4 ?_
  refine w_topi (y := nI 7) (by decide) ?_
  refine w_gets (i := 11) d_CA_isLarge_5 (by decide +kernel) g_CA_36 ?_
  refine w_tlen (v := nI 6) d_CA_isLarge_8 (hT 11 _ rfl) rfl ?_
  refine w_icmp_ge (tgt := 40) d_CA_isLarge_9 rfl (fun _ => ?_) (fun z => absurd (by decide) z)
  refine w_iconst (v := nI 0) d_CA_isLarge_40 (by decide) ?_
  rw [← hEN]
  refine w_zret d_CA_isLarge_41 rfl (by first | exact Or.inl rfl | exact Or.inr rfl) ?_
  rw [show isLg c = false from decide_eq_false (by omega)]
  exact ⟨rfl, rfl⟩
set_option maxHeartbeats 4000000 in
set_option maxRecDepth 100000 in
theorem m_CA_isAlike (hT : xTab X) {h : wH} {p c : Nat} {E S : List Nat} (hm : hMS h p E S) (hA : eAsc E) (hE31 : ∀ y ∈ E, y < 2 ^ 31) (hc0 : 32 ≤ c) (hc : c < 2 ^ 30) : PM X M_CA_isAlikeToMember 1 0 0 [.ref p, .int (nI c)] h (fun r h' => r = some (.int (bI (alk E c))) ∧ h' = h) := by
  have hhm := hm; obtain ⟨hf0, hk0, hp, ha, hb, hl1, hl2, hhf, hhk⟩ := hm
  refine PM.at (pl := [some (.ref p), some (.int (nI c)), none, none, none, none]) rfl rfl (by simp [wle, wen]) ?_
  generalize hEN : wEm X 0 0 _ = EN
  refine w_iload_n d_CA_isAlikeToMember_0 rfl ?_
  refine w_callS (as := [.int (nI c)]) (st := []) d_CA_isAlikeToMember_1 yM_CA_isLarge l_CA_26 sM_CA_isLarge rfl rfl (m_CA_isLarge hT (by omega)) (by decide) (by decide) (by decide) (by decide) (Nat.le_of_ble_eq_true rfl) ?_
  rintro _ h9_1 ⟨rfl, e9_1⟩
  rw [e9_1]
  refine w_eq (st' := [.int (bI (isLg c))]) rfl ?_
  suffices J18 : (isLg c && eMem E (c + 32)) = false → WP X M_CA_isAlikeToMember (wR 1 0 0) 0 EN 0 0 18 [some (.ref p), some (.int (nI c)), none, none, none, none] [] h by
    refine w_if_eq (tgt := 18) d_CA_isAlikeToMember_4 rfl (fun c4 => ?_) (fun c4 => ?_)
    · have c4 := bI_f c4
      exact J18 (by rw [c4]; rfl)
    · have c4 := bI_t c4
      refine w_aload_n d_CA_isAlikeToMember_7 rfl rfl ?_
      refine w_iload_n d_CA_isAlikeToMember_8 rfl ?_
      refine w_bipush (v := nI 32) d_CA_isAlikeToMember_9 (by decide) ?_
      refine w_iadd d_CA_isAlikeToMember_11 ?_
      refine w_topi (y := nI (c + 32)) (nI_add _ _) ?_
      refine w_callV (as := [.int (nI (c + 32))]) (st := []) d_CA_isAlikeToMember_12 yM_MS_holdsCode l_CA_30 vM_MS_holdsCode hp rfl rfl rfl rfl (m_MS_holdsCode hhm hA hE31 (by omega)) (by decide) (by decide) (by decide) (by decide) (Nat.le_of_ble_eq_true rfl) ?_
      rintro _ h9_2 ⟨rfl, e9_2⟩
      rw [e9_2]
      refine w_eq (st' := [.int (bI (eMem E (c + 32)))]) rfl ?_
      refine w_if_ne (tgt := 39) d_CA_isAlikeToMember_15 rfl (fun c15 => ?_) (fun c15 => ?_)
      · have c15 := bI_t c15
        refine w_iconst (v := nI 1) d_CA_isAlikeToMember_39 (by decide) ?_
        rw [← hEN]
        refine w_zret d_CA_isAlikeToMember_40 rfl (by first | exact Or.inl rfl | exact Or.inr rfl) ?_
        unfold alk
        first | (rw [c4, c15]; exact ⟨rfl, rfl⟩) | (rw [n1, c25, c36]; exact ⟨rfl, rfl⟩)
      · have c15 := bI_f c15
        exact J18 (by rw [c15]; cases isLg c <;> rfl)
  intro n1
  refine w_iload_n d_CA_isAlikeToMember_18 rfl ?_
  refine w_bipush (v := nI 32) d_CA_isAlikeToMember_19 (by decide) ?_
  refine w_isub d_CA_isAlikeToMember_21 ?_
  refine w_topi (y := nI (c - 32)) (pk_sub hc0) ?_
  refine w_callS (as := [.int (nI (c - 32))]) (st := []) d_CA_isAlikeToMember_22 yM_CA_isLarge l_CA_26 sM_CA_isLarge rfl rfl (m_CA_isLarge hT (by omega)) (by decide) (by decide) (by decide) (by decide) (Nat.le_of_ble_eq_true rfl) ?_
  rintro _ h9_3 ⟨rfl, e9_3⟩
  rw [e9_3]
  refine w_eq (st' := [.int (bI (isLg (c - 32)))]) rfl ?_
  suffices J41 : (isLg (c - 32) && eMem E (c - 32)) = false → WP X M_CA_isAlikeToMember (wR 1 0 0) 0 EN 0 0 41 [some (.ref p), some (.int (nI c)), none, none, none, none] [] h by
    refine w_if_eq (tgt := 41) d_CA_isAlikeToMember_25 rfl (fun c25 => ?_) (fun c25 => ?_)
    · have c25 := bI_f c25
      exact J41 (by rw [c25]; rfl)
    · have c25 := bI_t c25
      refine w_aload_n d_CA_isAlikeToMember_28 rfl rfl ?_
      refine w_iload_n d_CA_isAlikeToMember_29 rfl ?_
      refine w_bipush (v := nI 32) d_CA_isAlikeToMember_30 (by decide) ?_
      refine w_isub d_CA_isAlikeToMember_32 ?_
      refine w_topi (y := nI (c - 32)) (pk_sub hc0) ?_
      refine w_callV (as := [.int (nI (c - 32))]) (st := []) d_CA_isAlikeToMember_33 yM_MS_holdsCode l_CA_30 vM_MS_holdsCode hp rfl rfl rfl rfl (m_MS_holdsCode hhm hA hE31 (by omega)) (by decide) (by decide) (by decide) (by decide) (Nat.le_of_ble_eq_true rfl) ?_
      rintro _ h9_4 ⟨rfl, e9_4⟩
      rw [e9_4]
      refine w_eq (st' := [.int (bI (eMem E (c - 32)))]) rfl ?_
      refine w_if_eq (tgt := 41) d_CA_isAlikeToMember_36 rfl (fun c36 => ?_) (fun c36 => ?_)
      · have c36 := bI_f c36
        exact J41 (by rw [c36]; cases isLg (c - 32) <;> rfl)
      · have c36 := bI_t c36
        refine w_iconst (v := nI 1) d_CA_isAlikeToMember_39 (by decide) ?_
        rw [← hEN]
        refine w_zret d_CA_isAlikeToMember_40 rfl (by first | exact Or.inl rfl | exact Or.inr rfl) ?_
        unfold alk
        first | (rw [c4, c15]; exact ⟨rfl, rfl⟩) | (rw [n1, c25, c36]; exact ⟨rfl, rfl⟩)
  intro n2
  refine w_iconst (v := nI 0) d_CA_isAlikeToMember_41 (by decide) ?_
  refine w_istore_n d_CA_isAlikeToMember_42 (by decide) ?_
  refine w_iload_n d_CA_isAlikeToMember_43 rfl ?_
  refine w_iconst (v := nI 2) d_CA_isAlikeToMember_44 (by decide) ?_
  refine w_iadd d_CA_isAlikeToMember_45 ?_
  refine w_topi (y := nI 2) (by decide) ?_
  refine w_gets (i := 12) d_CA_isAlikeToMember_46 (by decide +kernel) g_CA_33 ?_
  refine w_tlen (v := nI 12) d_CA_isAlikeToMember_49 (hT 12 _ rfl) rfl ?_
  refine w_icmp_ge (tgt := 132) d_CA_isAlikeToMember_50 rfl (fun z => absurd z (by decide)) (fun _ => ?_)
  refine w_gets (i := 12) d_CA_isAlikeToMember_53 (by decide +kernel) g_CA_33 ?_
  refine w_iload_n d_CA_isAlikeToMember_56 rfl ?_
  refine w_ti d_CA_isAlikeToMember_57 (hT 12 _ rfl) (vp_in_nI (by decide) (by decide)) ?_
  refine w_topi (y := nI 75) (by decide) ?_
  refine w_istore_n d_CA_isAlikeToMember_58 (by decide) ?_
  refine w_gets (i := 12) d_CA_isAlikeToMember_59 (by decide +kernel) g_CA_33 ?_
  refine w_iload_n d_CA_isAlikeToMember_62 rfl ?_
  refine w_iconst (v := nI 1) d_CA_isAlikeToMember_63 (by decide) ?_
  refine w_iadd d_CA_isAlikeToMember_64 ?_
  refine w_topi (y := nI 1) (by decide) ?_
  refine w_ti d_CA_isAlikeToMember_65 (hT 12 _ rfl) (vp_in_nI (by decide) (by decide)) ?_
  refine w_topi (y := nI 107) (by decide) ?_
  refine w_istore d_CA_isAlikeToMember_66 (by decide) ?_
  refine w_gets (i := 12) d_CA_isAlikeToMember_68 (by decide +kernel) g_CA_33 ?_
  refine w_iload_n d_CA_isAlikeToMember_71 rfl ?_
  refine w_iconst (v := nI 2) d_CA_isAlikeToMember_72 (by decide) ?_
  refine w_iadd d_CA_isAlikeToMember_73 ?_
  refine w_topi (y := nI 2) (by decide) ?_
  refine w_ti d_CA_isAlikeToMember_74 (hT 12 _ rfl) (vp_in_nI (by decide) (by decide)) ?_
  refine w_topi (y := nI 8490) (by decide) ?_
  refine w_istore d_CA_isAlikeToMember_75 (by decide) ?_
  refine w_iload_n d_CA_isAlikeToMember_77 rfl ?_
  refine w_iload_n d_CA_isAlikeToMember_78 rfl ?_
  suffices J126 : (¬ c = 75 ∧ ¬ c = 107 ∧ ¬ c = 8490) → WP X M_CA_isAlikeToMember (wR 1 0 0) 0 EN 0 0 126 [some (.ref p), some (.int (nI c)), some (.int (nI 0)), some (.int (nI 75)), some (.int (nI 107)), some (.int (nI 8490))] [] h by
    suffices J94 : (c = 75 ∨ c = 107 ∨ c = 8490) → WP X M_CA_isAlikeToMember (wR 1 0 0) 0 EN 0 0 94 [some (.ref p), some (.int (nI c)), some (.int (nI 0)), some (.int (nI 75)), some (.int (nI 107)), some (.int (nI 8490))] [] h by
      refine w_icmp_eq (tgt := 94) d_CA_isAlikeToMember_79 rfl (fun c79 => ?_) (fun c79 => ?_)
      · have c79 : c = 75 := (nI_eq (by omega) (by decide)).mp c79
        exact J94 (Or.inl c79)
      · have c79 : ¬ c = 75 := fun z => c79 (by rw [z])
        refine w_iload_n d_CA_isAlikeToMember_82 rfl ?_
        refine w_iload d_CA_isAlikeToMember_83 rfl ?_
        refine w_icmp_eq (tgt := 94) d_CA_isAlikeToMember_85 rfl (fun c85 => ?_) (fun c85 => ?_)
        · have c85 : c = 107 := (nI_eq (by omega) (by decide)).mp c85
          exact J94 (Or.inr (Or.inl c85))
        · have c85 : ¬ c = 107 := fun z => c85 (by rw [z])
          refine w_iload_n d_CA_isAlikeToMember_88 rfl ?_
          refine w_iload d_CA_isAlikeToMember_89 rfl ?_
          refine w_icmp_ne (tgt := 126) d_CA_isAlikeToMember_91 rfl (fun c91 => ?_) (fun c91 => ?_)
          · have c91 : ¬ c = 8490 := fun z => c91 (by rw [z])
            exact J126 ⟨c79, c85, c91⟩
          · have c91 : c = 8490 := (nI_eq (by omega) (by decide)).mp c91
            exact J94 (Or.inr (Or.inr c91))
    intro y75
    refine w_aload_n d_CA_isAlikeToMember_94 rfl rfl ?_
    refine w_iload_n d_CA_isAlikeToMember_95 rfl ?_
    refine w_callV (as := [.int (nI 75)]) (st := []) d_CA_isAlikeToMember_96 yM_MS_holdsCode l_CA_30 vM_MS_holdsCode hp rfl rfl rfl rfl (m_MS_holdsCode hhm hA hE31 (by omega)) (by decide) (by decide) (by decide) (by decide) (Nat.le_of_ble_eq_true rfl) ?_
    rintro _ h9_5 ⟨rfl, e9_5⟩
    rw [e9_5]
    refine w_eq (st' := [.int (bI (eMem E (75)))]) rfl ?_
    refine w_if_ne (tgt := 120) d_CA_isAlikeToMember_99 rfl (fun c99 => ?_) (fun c99 => ?_)
    · have c99 := bI_t c99
      refine w_iconst (v := nI 1) d_CA_isAlikeToMember_120 (by decide) ?_
      refine w_goto (tgt := 125) d_CA_isAlikeToMember_121 rfl ?_
      rw [← hEN]
      refine w_zret d_CA_isAlikeToMember_125 rfl (by first | exact Or.inl rfl | exact Or.inr rfl) ?_
      unfold alk
      rw [n1, n2, show alk3 E c = (eMem E 75 || eMem E 107 || eMem E 8490) by unfold alk3; rw [if_pos y75]]
      first | (rw [c99]; exact ⟨rfl, rfl⟩) | (rw [c99, c108]; exact ⟨rfl, rfl⟩) | (rw [c99, c108, c117]; exact ⟨rfl, rfl⟩)
    · have c99 := bI_f c99
      refine w_aload_n d_CA_isAlikeToMember_102 rfl rfl ?_
      refine w_iload d_CA_isAlikeToMember_103 rfl ?_
      refine w_callV (as := [.int (nI 107)]) (st := []) d_CA_isAlikeToMember_105 yM_MS_holdsCode l_CA_30 vM_MS_holdsCode hp rfl rfl rfl rfl (m_MS_holdsCode hhm hA hE31 (by omega)) (by decide) (by decide) (by decide) (by decide) (Nat.le_of_ble_eq_true rfl) ?_
      rintro _ h9_6 ⟨rfl, e9_6⟩
      rw [e9_6]
      refine w_eq (st' := [.int (bI (eMem E (107)))]) rfl ?_
      refine w_if_ne (tgt := 120) d_CA_isAlikeToMember_108 rfl (fun c108 => ?_) (fun c108 => ?_)
      · have c108 := bI_t c108
        refine w_iconst (v := nI 1) d_CA_isAlikeToMember_120 (by decide) ?_
        refine w_goto (tgt := 125) d_CA_isAlikeToMember_121 rfl ?_
        rw [← hEN]
        refine w_zret d_CA_isAlikeToMember_125 rfl (by first | exact Or.inl rfl | exact Or.inr rfl) ?_
        unfold alk
        rw [n1, n2, show alk3 E c = (eMem E 75 || eMem E 107 || eMem E 8490) by unfold alk3; rw [if_pos y75]]
        first | (rw [c99]; exact ⟨rfl, rfl⟩) | (rw [c99, c108]; exact ⟨rfl, rfl⟩) | (rw [c99, c108, c117]; exact ⟨rfl, rfl⟩)
      · have c108 := bI_f c108
        refine w_aload_n d_CA_isAlikeToMember_111 rfl rfl ?_
        refine w_iload d_CA_isAlikeToMember_112 rfl ?_
        refine w_callV (as := [.int (nI 8490)]) (st := []) d_CA_isAlikeToMember_114 yM_MS_holdsCode l_CA_30 vM_MS_holdsCode hp rfl rfl rfl rfl (m_MS_holdsCode hhm hA hE31 (by omega)) (by decide) (by decide) (by decide) (by decide) (Nat.le_of_ble_eq_true rfl) ?_
        rintro _ h9_7 ⟨rfl, e9_7⟩
        rw [e9_7]
        refine w_eq (st' := [.int (bI (eMem E (8490)))]) rfl ?_
        refine w_if_eq (tgt := 124) d_CA_isAlikeToMember_117 rfl (fun c117 => ?_) (fun c117 => ?_)
        · have c117 := bI_f c117
          refine w_iconst (v := nI 0) d_CA_isAlikeToMember_124 (by decide) ?_
          rw [← hEN]
          refine w_zret d_CA_isAlikeToMember_125 rfl (by first | exact Or.inl rfl | exact Or.inr rfl) ?_
          unfold alk
          rw [n1, n2, show alk3 E c = (eMem E 75 || eMem E 107 || eMem E 8490) by unfold alk3; rw [if_pos y75]]
          first | (rw [c99]; exact ⟨rfl, rfl⟩) | (rw [c99, c108]; exact ⟨rfl, rfl⟩) | (rw [c99, c108, c117]; exact ⟨rfl, rfl⟩)
        · have c117 := bI_t c117
          refine w_iconst (v := nI 1) d_CA_isAlikeToMember_120 (by decide) ?_
          refine w_goto (tgt := 125) d_CA_isAlikeToMember_121 rfl ?_
          rw [← hEN]
          refine w_zret d_CA_isAlikeToMember_125 rfl (by first | exact Or.inl rfl | exact Or.inr rfl) ?_
          unfold alk
          rw [n1, n2, show alk3 E c = (eMem E 75 || eMem E 107 || eMem E 8490) by unfold alk3; rw [if_pos y75]]
          first | (rw [c99]; exact ⟨rfl, rfl⟩) | (rw [c99, c108]; exact ⟨rfl, rfl⟩) | (rw [c99, c108, c117]; exact ⟨rfl, rfl⟩)
  intro z75
  refine w_iinc (v := nI 3) d_CA_isAlikeToMember_126 rfl (by decide) (by decide) ?_
  refine w_goto (tgt := 43) d_CA_isAlikeToMember_129 rfl ?_
  refine w_iload_n d_CA_isAlikeToMember_43 rfl ?_
  refine w_iconst (v := nI 2) d_CA_isAlikeToMember_44 (by decide) ?_
  refine w_iadd d_CA_isAlikeToMember_45 ?_
  refine w_topi (y := nI 5) (by decide) ?_
  refine w_gets (i := 12) d_CA_isAlikeToMember_46 (by decide +kernel) g_CA_33 ?_
  refine w_tlen (v := nI 12) d_CA_isAlikeToMember_49 (hT 12 _ rfl) rfl ?_
  refine w_icmp_ge (tgt := 132) d_CA_isAlikeToMember_50 rfl (fun z => absurd z (by decide)) (fun _ => ?_)
  refine w_gets (i := 12) d_CA_isAlikeToMember_53 (by decide +kernel) g_CA_33 ?_
  refine w_iload_n d_CA_isAlikeToMember_56 rfl ?_
  refine w_ti d_CA_isAlikeToMember_57 (hT 12 _ rfl) (vp_in_nI (by decide) (by decide)) ?_
  refine w_topi (y := nI 83) (by decide) ?_
  refine w_istore_n d_CA_isAlikeToMember_58 (by decide) ?_
  refine w_gets (i := 12) d_CA_isAlikeToMember_59 (by decide +kernel) g_CA_33 ?_
  refine w_iload_n d_CA_isAlikeToMember_62 rfl ?_
  refine w_iconst (v := nI 1) d_CA_isAlikeToMember_63 (by decide) ?_
  refine w_iadd d_CA_isAlikeToMember_64 ?_
  refine w_topi (y := nI 4) (by decide) ?_
  refine w_ti d_CA_isAlikeToMember_65 (hT 12 _ rfl) (vp_in_nI (by decide) (by decide)) ?_
  refine w_topi (y := nI 115) (by decide) ?_
  refine w_istore d_CA_isAlikeToMember_66 (by decide) ?_
  refine w_gets (i := 12) d_CA_isAlikeToMember_68 (by decide +kernel) g_CA_33 ?_
  refine w_iload_n d_CA_isAlikeToMember_71 rfl ?_
  refine w_iconst (v := nI 2) d_CA_isAlikeToMember_72 (by decide) ?_
  refine w_iadd d_CA_isAlikeToMember_73 ?_
  refine w_topi (y := nI 5) (by decide) ?_
  refine w_ti d_CA_isAlikeToMember_74 (hT 12 _ rfl) (vp_in_nI (by decide) (by decide)) ?_
  refine w_topi (y := nI 383) (by decide) ?_
  refine w_istore d_CA_isAlikeToMember_75 (by decide) ?_
  refine w_iload_n d_CA_isAlikeToMember_77 rfl ?_
  refine w_iload_n d_CA_isAlikeToMember_78 rfl ?_
  suffices J126 : (¬ c = 83 ∧ ¬ c = 115 ∧ ¬ c = 383) → WP X M_CA_isAlikeToMember (wR 1 0 0) 0 EN 0 0 126 [some (.ref p), some (.int (nI c)), some (.int (nI 3)), some (.int (nI 83)), some (.int (nI 115)), some (.int (nI 383))] [] h by
    suffices J94 : (c = 83 ∨ c = 115 ∨ c = 383) → WP X M_CA_isAlikeToMember (wR 1 0 0) 0 EN 0 0 94 [some (.ref p), some (.int (nI c)), some (.int (nI 3)), some (.int (nI 83)), some (.int (nI 115)), some (.int (nI 383))] [] h by
      refine w_icmp_eq (tgt := 94) d_CA_isAlikeToMember_79 rfl (fun c79 => ?_) (fun c79 => ?_)
      · have c79 : c = 83 := (nI_eq (by omega) (by decide)).mp c79
        exact J94 (Or.inl c79)
      · have c79 : ¬ c = 83 := fun z => c79 (by rw [z])
        refine w_iload_n d_CA_isAlikeToMember_82 rfl ?_
        refine w_iload d_CA_isAlikeToMember_83 rfl ?_
        refine w_icmp_eq (tgt := 94) d_CA_isAlikeToMember_85 rfl (fun c85 => ?_) (fun c85 => ?_)
        · have c85 : c = 115 := (nI_eq (by omega) (by decide)).mp c85
          exact J94 (Or.inr (Or.inl c85))
        · have c85 : ¬ c = 115 := fun z => c85 (by rw [z])
          refine w_iload_n d_CA_isAlikeToMember_88 rfl ?_
          refine w_iload d_CA_isAlikeToMember_89 rfl ?_
          refine w_icmp_ne (tgt := 126) d_CA_isAlikeToMember_91 rfl (fun c91 => ?_) (fun c91 => ?_)
          · have c91 : ¬ c = 383 := fun z => c91 (by rw [z])
            exact J126 ⟨c79, c85, c91⟩
          · have c91 : c = 383 := (nI_eq (by omega) (by decide)).mp c91
            exact J94 (Or.inr (Or.inr c91))
    intro y83
    refine w_aload_n d_CA_isAlikeToMember_94 rfl rfl ?_
    refine w_iload_n d_CA_isAlikeToMember_95 rfl ?_
    refine w_callV (as := [.int (nI 83)]) (st := []) d_CA_isAlikeToMember_96 yM_MS_holdsCode l_CA_30 vM_MS_holdsCode hp rfl rfl rfl rfl (m_MS_holdsCode hhm hA hE31 (by omega)) (by decide) (by decide) (by decide) (by decide) (Nat.le_of_ble_eq_true rfl) ?_
    rintro _ h9_8 ⟨rfl, e9_8⟩
    rw [e9_8]
    refine w_eq (st' := [.int (bI (eMem E (83)))]) rfl ?_
    refine w_if_ne (tgt := 120) d_CA_isAlikeToMember_99 rfl (fun c99 => ?_) (fun c99 => ?_)
    · have c99 := bI_t c99
      refine w_iconst (v := nI 1) d_CA_isAlikeToMember_120 (by decide) ?_
      refine w_goto (tgt := 125) d_CA_isAlikeToMember_121 rfl ?_
      rw [← hEN]
      refine w_zret d_CA_isAlikeToMember_125 rfl (by first | exact Or.inl rfl | exact Or.inr rfl) ?_
      unfold alk
      rw [n1, n2, show alk3 E c = (eMem E 83 || eMem E 115 || eMem E 383) by unfold alk3; rw [if_neg (by omega), if_pos y83]]
      first | (rw [c99]; exact ⟨rfl, rfl⟩) | (rw [c99, c108]; exact ⟨rfl, rfl⟩) | (rw [c99, c108, c117]; exact ⟨rfl, rfl⟩)
    · have c99 := bI_f c99
      refine w_aload_n d_CA_isAlikeToMember_102 rfl rfl ?_
      refine w_iload d_CA_isAlikeToMember_103 rfl ?_
      refine w_callV (as := [.int (nI 115)]) (st := []) d_CA_isAlikeToMember_105 yM_MS_holdsCode l_CA_30 vM_MS_holdsCode hp rfl rfl rfl rfl (m_MS_holdsCode hhm hA hE31 (by omega)) (by decide) (by decide) (by decide) (by decide) (Nat.le_of_ble_eq_true rfl) ?_
      rintro _ h9_9 ⟨rfl, e9_9⟩
      rw [e9_9]
      refine w_eq (st' := [.int (bI (eMem E (115)))]) rfl ?_
      refine w_if_ne (tgt := 120) d_CA_isAlikeToMember_108 rfl (fun c108 => ?_) (fun c108 => ?_)
      · have c108 := bI_t c108
        refine w_iconst (v := nI 1) d_CA_isAlikeToMember_120 (by decide) ?_
        refine w_goto (tgt := 125) d_CA_isAlikeToMember_121 rfl ?_
        rw [← hEN]
        refine w_zret d_CA_isAlikeToMember_125 rfl (by first | exact Or.inl rfl | exact Or.inr rfl) ?_
        unfold alk
        rw [n1, n2, show alk3 E c = (eMem E 83 || eMem E 115 || eMem E 383) by unfold alk3; rw [if_neg (by omega), if_pos y83]]
        first | (rw [c99]; exact ⟨rfl, rfl⟩) | (rw [c99, c108]; exact ⟨rfl, rfl⟩) | (rw [c99, c108, c117]; exact ⟨rfl, rfl⟩)
      · have c108 := bI_f c108
        refine w_aload_n d_CA_isAlikeToMember_111 rfl rfl ?_
        refine w_iload d_CA_isAlikeToMember_112 rfl ?_
        refine w_callV (as := [.int (nI 383)]) (st := []) d_CA_isAlikeToMember_114 yM_MS_holdsCode l_CA_30 vM_MS_holdsCode hp rfl rfl rfl rfl (m_MS_holdsCode hhm hA hE31 (by omega)) (by decide) (by decide) (by decide) (by decide) (Nat.le_of_ble_eq_true rfl) ?_
        rintro _ h9_10 ⟨rfl, e9_10⟩
        rw [e9_10]
        refine w_eq (st' := [.int (bI (eMem E (383)))]) rfl ?_
        refine w_if_eq (tgt := 124) d_CA_isAlikeToMember_117 rfl (fun c117 => ?_) (fun c117 => ?_)
        · have c117 := bI_f c117
          refine w_iconst (v := nI 0) d_CA_isAlikeToMember_124 (by decide) ?_
          rw [← hEN]
          refine w_zret d_CA_isAlikeToMember_125 rfl (by first | exact Or.inl rfl | exact Or.inr rfl) ?_
          unfold alk
          rw [n1, n2, show alk3 E c = (eMem E 83 || eMem E 115 || eMem E 383) by unfold alk3; rw [if_neg (by omega), if_pos y83]]
          first | (rw [c99]; exact ⟨rfl, rfl⟩) | (rw [c99, c108]; exact ⟨rfl, rfl⟩) | (rw [c99, c108, c117]; exact ⟨rfl, rfl⟩)
        · have c117 := bI_t c117
          refine w_iconst (v := nI 1) d_CA_isAlikeToMember_120 (by decide) ?_
          refine w_goto (tgt := 125) d_CA_isAlikeToMember_121 rfl ?_
          rw [← hEN]
          refine w_zret d_CA_isAlikeToMember_125 rfl (by first | exact Or.inl rfl | exact Or.inr rfl) ?_
          unfold alk
          rw [n1, n2, show alk3 E c = (eMem E 83 || eMem E 115 || eMem E 383) by unfold alk3; rw [if_neg (by omega), if_pos y83]]
          first | (rw [c99]; exact ⟨rfl, rfl⟩) | (rw [c99, c108]; exact ⟨rfl, rfl⟩) | (rw [c99, c108, c117]; exact ⟨rfl, rfl⟩)
  intro z83
  refine w_iinc (v := nI 6) d_CA_isAlikeToMember_126 rfl (by decide) (by decide) ?_
  refine w_goto (tgt := 43) d_CA_isAlikeToMember_129 rfl ?_
  refine w_iload_n d_CA_isAlikeToMember_43 rfl ?_
  refine w_iconst (v := nI 2) d_CA_isAlikeToMember_44 (by decide) ?_
  refine w_iadd d_CA_isAlikeToMember_45 ?_
  refine w_topi (y := nI 8) (by decide) ?_
  refine w_gets (i := 12) d_CA_isAlikeToMember_46 (by decide +kernel) g_CA_33 ?_
  refine w_tlen (v := nI 12) d_CA_isAlikeToMember_49 (hT 12 _ rfl) rfl ?_
  refine w_icmp_ge (tgt := 132) d_CA_isAlikeToMember_50 rfl (fun z => absurd z (by decide)) (fun _ => ?_)
  refine w_gets (i := 12) d_CA_isAlikeToMember_53 (by decide +kernel) g_CA_33 ?_
  refine w_iload_n d_CA_isAlikeToMember_56 rfl ?_
  refine w_ti d_CA_isAlikeToMember_57 (hT 12 _ rfl) (vp_in_nI (by decide) (by decide)) ?_
  refine w_topi (y := nI 197) (by decide) ?_
  refine w_istore_n d_CA_isAlikeToMember_58 (by decide) ?_
  refine w_gets (i := 12) d_CA_isAlikeToMember_59 (by decide +kernel) g_CA_33 ?_
  refine w_iload_n d_CA_isAlikeToMember_62 rfl ?_
  refine w_iconst (v := nI 1) d_CA_isAlikeToMember_63 (by decide) ?_
  refine w_iadd d_CA_isAlikeToMember_64 ?_
  refine w_topi (y := nI 7) (by decide) ?_
  refine w_ti d_CA_isAlikeToMember_65 (hT 12 _ rfl) (vp_in_nI (by decide) (by decide)) ?_
  refine w_topi (y := nI 229) (by decide) ?_
  refine w_istore d_CA_isAlikeToMember_66 (by decide) ?_
  refine w_gets (i := 12) d_CA_isAlikeToMember_68 (by decide +kernel) g_CA_33 ?_
  refine w_iload_n d_CA_isAlikeToMember_71 rfl ?_
  refine w_iconst (v := nI 2) d_CA_isAlikeToMember_72 (by decide) ?_
  refine w_iadd d_CA_isAlikeToMember_73 ?_
  refine w_topi (y := nI 8) (by decide) ?_
  refine w_ti d_CA_isAlikeToMember_74 (hT 12 _ rfl) (vp_in_nI (by decide) (by decide)) ?_
  refine w_topi (y := nI 8491) (by decide) ?_
  refine w_istore d_CA_isAlikeToMember_75 (by decide) ?_
  refine w_iload_n d_CA_isAlikeToMember_77 rfl ?_
  refine w_iload_n d_CA_isAlikeToMember_78 rfl ?_
  suffices J126 : (¬ c = 197 ∧ ¬ c = 229 ∧ ¬ c = 8491) → WP X M_CA_isAlikeToMember (wR 1 0 0) 0 EN 0 0 126 [some (.ref p), some (.int (nI c)), some (.int (nI 6)), some (.int (nI 197)), some (.int (nI 229)), some (.int (nI 8491))] [] h by
    suffices J94 : (c = 197 ∨ c = 229 ∨ c = 8491) → WP X M_CA_isAlikeToMember (wR 1 0 0) 0 EN 0 0 94 [some (.ref p), some (.int (nI c)), some (.int (nI 6)), some (.int (nI 197)), some (.int (nI 229)), some (.int (nI 8491))] [] h by
      refine w_icmp_eq (tgt := 94) d_CA_isAlikeToMember_79 rfl (fun c79 => ?_) (fun c79 => ?_)
      · have c79 : c = 197 := (nI_eq (by omega) (by decide)).mp c79
        exact J94 (Or.inl c79)
      · have c79 : ¬ c = 197 := fun z => c79 (by rw [z])
        refine w_iload_n d_CA_isAlikeToMember_82 rfl ?_
        refine w_iload d_CA_isAlikeToMember_83 rfl ?_
        refine w_icmp_eq (tgt := 94) d_CA_isAlikeToMember_85 rfl (fun c85 => ?_) (fun c85 => ?_)
        · have c85 : c = 229 := (nI_eq (by omega) (by decide)).mp c85
          exact J94 (Or.inr (Or.inl c85))
        · have c85 : ¬ c = 229 := fun z => c85 (by rw [z])
          refine w_iload_n d_CA_isAlikeToMember_88 rfl ?_
          refine w_iload d_CA_isAlikeToMember_89 rfl ?_
          refine w_icmp_ne (tgt := 126) d_CA_isAlikeToMember_91 rfl (fun c91 => ?_) (fun c91 => ?_)
          · have c91 : ¬ c = 8491 := fun z => c91 (by rw [z])
            exact J126 ⟨c79, c85, c91⟩
          · have c91 : c = 8491 := (nI_eq (by omega) (by decide)).mp c91
            exact J94 (Or.inr (Or.inr c91))
    intro y197
    refine w_aload_n d_CA_isAlikeToMember_94 rfl rfl ?_
    refine w_iload_n d_CA_isAlikeToMember_95 rfl ?_
    refine w_callV (as := [.int (nI 197)]) (st := []) d_CA_isAlikeToMember_96 yM_MS_holdsCode l_CA_30 vM_MS_holdsCode hp rfl rfl rfl rfl (m_MS_holdsCode hhm hA hE31 (by omega)) (by decide) (by decide) (by decide) (by decide) (Nat.le_of_ble_eq_true rfl) ?_
    rintro _ h9_11 ⟨rfl, e9_11⟩
    rw [e9_11]
    refine w_eq (st' := [.int (bI (eMem E (197)))]) rfl ?_
    refine w_if_ne (tgt := 120) d_CA_isAlikeToMember_99 rfl (fun c99 => ?_) (fun c99 => ?_)
    · have c99 := bI_t c99
      refine w_iconst (v := nI 1) d_CA_isAlikeToMember_120 (by decide) ?_
      refine w_goto (tgt := 125) d_CA_isAlikeToMember_121 rfl ?_
      rw [← hEN]
      refine w_zret d_CA_isAlikeToMember_125 rfl (by first | exact Or.inl rfl | exact Or.inr rfl) ?_
      unfold alk
      rw [n1, n2, show alk3 E c = (eMem E 197 || eMem E 229 || eMem E 8491) by unfold alk3; rw [if_neg (by omega), if_neg (by omega), if_pos y197]]
      first | (rw [c99]; exact ⟨rfl, rfl⟩) | (rw [c99, c108]; exact ⟨rfl, rfl⟩) | (rw [c99, c108, c117]; exact ⟨rfl, rfl⟩)
    · have c99 := bI_f c99
      refine w_aload_n d_CA_isAlikeToMember_102 rfl rfl ?_
      refine w_iload d_CA_isAlikeToMember_103 rfl ?_
      refine w_callV (as := [.int (nI 229)]) (st := []) d_CA_isAlikeToMember_105 yM_MS_holdsCode l_CA_30 vM_MS_holdsCode hp rfl rfl rfl rfl (m_MS_holdsCode hhm hA hE31 (by omega)) (by decide) (by decide) (by decide) (by decide) (Nat.le_of_ble_eq_true rfl) ?_
      rintro _ h9_12 ⟨rfl, e9_12⟩
      rw [e9_12]
      refine w_eq (st' := [.int (bI (eMem E (229)))]) rfl ?_
      refine w_if_ne (tgt := 120) d_CA_isAlikeToMember_108 rfl (fun c108 => ?_) (fun c108 => ?_)
      · have c108 := bI_t c108
        refine w_iconst (v := nI 1) d_CA_isAlikeToMember_120 (by decide) ?_
        refine w_goto (tgt := 125) d_CA_isAlikeToMember_121 rfl ?_
        rw [← hEN]
        refine w_zret d_CA_isAlikeToMember_125 rfl (by first | exact Or.inl rfl | exact Or.inr rfl) ?_
        unfold alk
        rw [n1, n2, show alk3 E c = (eMem E 197 || eMem E 229 || eMem E 8491) by unfold alk3; rw [if_neg (by omega), if_neg (by omega), if_pos y197]]
        first | (rw [c99]; exact ⟨rfl, rfl⟩) | (rw [c99, c108]; exact ⟨rfl, rfl⟩) | (rw [c99, c108, c117]; exact ⟨rfl, rfl⟩)
      · have c108 := bI_f c108
        refine w_aload_n d_CA_isAlikeToMember_111 rfl rfl ?_
        refine w_iload d_CA_isAlikeToMember_112 rfl ?_
        refine w_callV (as := [.int (nI 8491)]) (st := []) d_CA_isAlikeToMember_114 yM_MS_holdsCode l_CA_30 vM_MS_holdsCode hp rfl rfl rfl rfl (m_MS_holdsCode hhm hA hE31 (by omega)) (by decide) (by decide) (by decide) (by decide) (Nat.le_of_ble_eq_true rfl) ?_
        rintro _ h9_13 ⟨rfl, e9_13⟩
        rw [e9_13]
        refine w_eq (st' := [.int (bI (eMem E (8491)))]) rfl ?_
        refine w_if_eq (tgt := 124) d_CA_isAlikeToMember_117 rfl (fun c117 => ?_) (fun c117 => ?_)
        · have c117 := bI_f c117
          refine w_iconst (v := nI 0) d_CA_isAlikeToMember_124 (by decide) ?_
          rw [← hEN]
          refine w_zret d_CA_isAlikeToMember_125 rfl (by first | exact Or.inl rfl | exact Or.inr rfl) ?_
          unfold alk
          rw [n1, n2, show alk3 E c = (eMem E 197 || eMem E 229 || eMem E 8491) by unfold alk3; rw [if_neg (by omega), if_neg (by omega), if_pos y197]]
          first | (rw [c99]; exact ⟨rfl, rfl⟩) | (rw [c99, c108]; exact ⟨rfl, rfl⟩) | (rw [c99, c108, c117]; exact ⟨rfl, rfl⟩)
        · have c117 := bI_t c117
          refine w_iconst (v := nI 1) d_CA_isAlikeToMember_120 (by decide) ?_
          refine w_goto (tgt := 125) d_CA_isAlikeToMember_121 rfl ?_
          rw [← hEN]
          refine w_zret d_CA_isAlikeToMember_125 rfl (by first | exact Or.inl rfl | exact Or.inr rfl) ?_
          unfold alk
          rw [n1, n2, show alk3 E c = (eMem E 197 || eMem E 229 || eMem E 8491) by unfold alk3; rw [if_neg (by omega), if_neg (by omega), if_pos y197]]
          first | (rw [c99]; exact ⟨rfl, rfl⟩) | (rw [c99, c108]; exact ⟨rfl, rfl⟩) | (rw [c99, c108, c117]; exact ⟨rfl, rfl⟩)
  intro z197
  refine w_iinc (v := nI 9) d_CA_isAlikeToMember_126 rfl (by decide) (by decide) ?_
  refine w_goto (tgt := 43) d_CA_isAlikeToMember_129 rfl ?_
  refine w_iload_n d_CA_isAlikeToMember_43 rfl ?_
  refine w_iconst (v := nI 2) d_CA_isAlikeToMember_44 (by decide) ?_
  refine w_iadd d_CA_isAlikeToMember_45 ?_
  refine w_topi (y := nI 11) (by decide) ?_
  refine w_gets (i := 12) d_CA_isAlikeToMember_46 (by decide +kernel) g_CA_33 ?_
  refine w_tlen (v := nI 12) d_CA_isAlikeToMember_49 (hT 12 _ rfl) rfl ?_
  refine w_icmp_ge (tgt := 132) d_CA_isAlikeToMember_50 rfl (fun z => absurd z (by decide)) (fun _ => ?_)
  refine w_gets (i := 12) d_CA_isAlikeToMember_53 (by decide +kernel) g_CA_33 ?_
  refine w_iload_n d_CA_isAlikeToMember_56 rfl ?_
  refine w_ti d_CA_isAlikeToMember_57 (hT 12 _ rfl) (vp_in_nI (by decide) (by decide)) ?_
  refine w_topi (y := nI 931) (by decide) ?_
  refine w_istore_n d_CA_isAlikeToMember_58 (by decide) ?_
  refine w_gets (i := 12) d_CA_isAlikeToMember_59 (by decide +kernel) g_CA_33 ?_
  refine w_iload_n d_CA_isAlikeToMember_62 rfl ?_
  refine w_iconst (v := nI 1) d_CA_isAlikeToMember_63 (by decide) ?_
  refine w_iadd d_CA_isAlikeToMember_64 ?_
  refine w_topi (y := nI 10) (by decide) ?_
  refine w_ti d_CA_isAlikeToMember_65 (hT 12 _ rfl) (vp_in_nI (by decide) (by decide)) ?_
  refine w_topi (y := nI 962) (by decide) ?_
  refine w_istore d_CA_isAlikeToMember_66 (by decide) ?_
  refine w_gets (i := 12) d_CA_isAlikeToMember_68 (by decide +kernel) g_CA_33 ?_
  refine w_iload_n d_CA_isAlikeToMember_71 rfl ?_
  refine w_iconst (v := nI 2) d_CA_isAlikeToMember_72 (by decide) ?_
  refine w_iadd d_CA_isAlikeToMember_73 ?_
  refine w_topi (y := nI 11) (by decide) ?_
  refine w_ti d_CA_isAlikeToMember_74 (hT 12 _ rfl) (vp_in_nI (by decide) (by decide)) ?_
  refine w_topi (y := nI 963) (by decide) ?_
  refine w_istore d_CA_isAlikeToMember_75 (by decide) ?_
  refine w_iload_n d_CA_isAlikeToMember_77 rfl ?_
  refine w_iload_n d_CA_isAlikeToMember_78 rfl ?_
  suffices J126 : (¬ c = 931 ∧ ¬ c = 962 ∧ ¬ c = 963) → WP X M_CA_isAlikeToMember (wR 1 0 0) 0 EN 0 0 126 [some (.ref p), some (.int (nI c)), some (.int (nI 9)), some (.int (nI 931)), some (.int (nI 962)), some (.int (nI 963))] [] h by
    suffices J94 : (c = 931 ∨ c = 962 ∨ c = 963) → WP X M_CA_isAlikeToMember (wR 1 0 0) 0 EN 0 0 94 [some (.ref p), some (.int (nI c)), some (.int (nI 9)), some (.int (nI 931)), some (.int (nI 962)), some (.int (nI 963))] [] h by
      refine w_icmp_eq (tgt := 94) d_CA_isAlikeToMember_79 rfl (fun c79 => ?_) (fun c79 => ?_)
      · have c79 : c = 931 := (nI_eq (by omega) (by decide)).mp c79
        exact J94 (Or.inl c79)
      · have c79 : ¬ c = 931 := fun z => c79 (by rw [z])
        refine w_iload_n d_CA_isAlikeToMember_82 rfl ?_
        refine w_iload d_CA_isAlikeToMember_83 rfl ?_
        refine w_icmp_eq (tgt := 94) d_CA_isAlikeToMember_85 rfl (fun c85 => ?_) (fun c85 => ?_)
        · have c85 : c = 962 := (nI_eq (by omega) (by decide)).mp c85
          exact J94 (Or.inr (Or.inl c85))
        · have c85 : ¬ c = 962 := fun z => c85 (by rw [z])
          refine w_iload_n d_CA_isAlikeToMember_88 rfl ?_
          refine w_iload d_CA_isAlikeToMember_89 rfl ?_
          refine w_icmp_ne (tgt := 126) d_CA_isAlikeToMember_91 rfl (fun c91 => ?_) (fun c91 => ?_)
          · have c91 : ¬ c = 963 := fun z => c91 (by rw [z])
            exact J126 ⟨c79, c85, c91⟩
          · have c91 : c = 963 := (nI_eq (by omega) (by decide)).mp c91
            exact J94 (Or.inr (Or.inr c91))
    intro y931
    refine w_aload_n d_CA_isAlikeToMember_94 rfl rfl ?_
    refine w_iload_n d_CA_isAlikeToMember_95 rfl ?_
    refine w_callV (as := [.int (nI 931)]) (st := []) d_CA_isAlikeToMember_96 yM_MS_holdsCode l_CA_30 vM_MS_holdsCode hp rfl rfl rfl rfl (m_MS_holdsCode hhm hA hE31 (by omega)) (by decide) (by decide) (by decide) (by decide) (Nat.le_of_ble_eq_true rfl) ?_
    rintro _ h9_14 ⟨rfl, e9_14⟩
    rw [e9_14]
    refine w_eq (st' := [.int (bI (eMem E (931)))]) rfl ?_
    refine w_if_ne (tgt := 120) d_CA_isAlikeToMember_99 rfl (fun c99 => ?_) (fun c99 => ?_)
    · have c99 := bI_t c99
      refine w_iconst (v := nI 1) d_CA_isAlikeToMember_120 (by decide) ?_
      refine w_goto (tgt := 125) d_CA_isAlikeToMember_121 rfl ?_
      rw [← hEN]
      refine w_zret d_CA_isAlikeToMember_125 rfl (by first | exact Or.inl rfl | exact Or.inr rfl) ?_
      unfold alk
      rw [n1, n2, show alk3 E c = (eMem E 931 || eMem E 962 || eMem E 963) by unfold alk3; rw [if_neg (by omega), if_neg (by omega), if_neg (by omega), if_pos y931]]
      first | (rw [c99]; exact ⟨rfl, rfl⟩) | (rw [c99, c108]; exact ⟨rfl, rfl⟩) | (rw [c99, c108, c117]; exact ⟨rfl, rfl⟩)
    · have c99 := bI_f c99
      refine w_aload_n d_CA_isAlikeToMember_102 rfl rfl ?_
      refine w_iload d_CA_isAlikeToMember_103 rfl ?_
      refine w_callV (as := [.int (nI 962)]) (st := []) d_CA_isAlikeToMember_105 yM_MS_holdsCode l_CA_30 vM_MS_holdsCode hp rfl rfl rfl rfl (m_MS_holdsCode hhm hA hE31 (by omega)) (by decide) (by decide) (by decide) (by decide) (Nat.le_of_ble_eq_true rfl) ?_
      rintro _ h9_15 ⟨rfl, e9_15⟩
      rw [e9_15]
      refine w_eq (st' := [.int (bI (eMem E (962)))]) rfl ?_
      refine w_if_ne (tgt := 120) d_CA_isAlikeToMember_108 rfl (fun c108 => ?_) (fun c108 => ?_)
      · have c108 := bI_t c108
        refine w_iconst (v := nI 1) d_CA_isAlikeToMember_120 (by decide) ?_
        refine w_goto (tgt := 125) d_CA_isAlikeToMember_121 rfl ?_
        rw [← hEN]
        refine w_zret d_CA_isAlikeToMember_125 rfl (by first | exact Or.inl rfl | exact Or.inr rfl) ?_
        unfold alk
        rw [n1, n2, show alk3 E c = (eMem E 931 || eMem E 962 || eMem E 963) by unfold alk3; rw [if_neg (by omega), if_neg (by omega), if_neg (by omega), if_pos y931]]
        first | (rw [c99]; exact ⟨rfl, rfl⟩) | (rw [c99, c108]; exact ⟨rfl, rfl⟩) | (rw [c99, c108, c117]; exact ⟨rfl, rfl⟩)
      · have c108 := bI_f c108
        refine w_aload_n d_CA_isAlikeToMember_111 rfl rfl ?_
        refine w_iload d_CA_isAlikeToMember_112 rfl ?_
        refine w_callV (as := [.int (nI 963)]) (st := []) d_CA_isAlikeToMember_114 yM_MS_holdsCode l_CA_30 vM_MS_holdsCode hp rfl rfl rfl rfl (m_MS_holdsCode hhm hA hE31 (by omega)) (by decide) (by decide) (by decide) (by decide) (Nat.le_of_ble_eq_true rfl) ?_
        rintro _ h9_16 ⟨rfl, e9_16⟩
        rw [e9_16]
        refine w_eq (st' := [.int (bI (eMem E (963)))]) rfl ?_
        refine w_if_eq (tgt := 124) d_CA_isAlikeToMember_117 rfl (fun c117 => ?_) (fun c117 => ?_)
        · have c117 := bI_f c117
          refine w_iconst (v := nI 0) d_CA_isAlikeToMember_124 (by decide) ?_
          rw [← hEN]
          refine w_zret d_CA_isAlikeToMember_125 rfl (by first | exact Or.inl rfl | exact Or.inr rfl) ?_
          unfold alk
          rw [n1, n2, show alk3 E c = (eMem E 931 || eMem E 962 || eMem E 963) by unfold alk3; rw [if_neg (by omega), if_neg (by omega), if_neg (by omega), if_pos y931]]
          first | (rw [c99]; exact ⟨rfl, rfl⟩) | (rw [c99, c108]; exact ⟨rfl, rfl⟩) | (rw [c99, c108, c117]; exact ⟨rfl, rfl⟩)
        · have c117 := bI_t c117
          refine w_iconst (v := nI 1) d_CA_isAlikeToMember_120 (by decide) ?_
          refine w_goto (tgt := 125) d_CA_isAlikeToMember_121 rfl ?_
          rw [← hEN]
          refine w_zret d_CA_isAlikeToMember_125 rfl (by first | exact Or.inl rfl | exact Or.inr rfl) ?_
          unfold alk
          rw [n1, n2, show alk3 E c = (eMem E 931 || eMem E 962 || eMem E 963) by unfold alk3; rw [if_neg (by omega), if_neg (by omega), if_neg (by omega), if_pos y931]]
          first | (rw [c99]; exact ⟨rfl, rfl⟩) | (rw [c99, c108]; exact ⟨rfl, rfl⟩) | (rw [c99, c108, c117]; exact ⟨rfl, rfl⟩)
  intro z931
  refine w_iinc (v := nI 12) d_CA_isAlikeToMember_126 rfl (by decide) (by decide) ?_
  refine w_goto (tgt := 43) d_CA_isAlikeToMember_129 rfl ?_
  refine w_iload_n d_CA_isAlikeToMember_43 rfl ?_
  refine w_iconst (v := nI 2) d_CA_isAlikeToMember_44 (by decide) ?_
  refine w_iadd d_CA_isAlikeToMember_45 ?_
  refine w_topi (y := nI 14) (by decide) ?_
  refine w_gets (i := 12) d_CA_isAlikeToMember_46 (by decide +kernel) g_CA_33 ?_
  refine w_tlen (v := nI 12) d_CA_isAlikeToMember_49 (hT 12 _ rfl) rfl ?_
  refine w_icmp_ge (tgt := 132) d_CA_isAlikeToMember_50 rfl (fun _ => ?_) (fun z => absurd (by decide) z)
  refine w_iconst (v := nI 0) d_CA_isAlikeToMember_132 (by decide) ?_
  rw [← hEN]
  refine w_zret d_CA_isAlikeToMember_133 rfl (by first | exact Or.inl rfl | exact Or.inr rfl) ?_
  unfold alk
  rw [n1, n2, show alk3 E c = false by unfold alk3; rw [if_neg (by omega), if_neg (by omega), if_neg (by omega), if_neg (by omega)]]
  exact ⟨rfl, rfl⟩
end CA
end
section
/-! CaseRules.collectAlikes: written by wip/gen/ca2.py -/
/-- the code points that are alike to another one -/
def casd (x : Nat) : Bool := decide ((65 ≤ x ∧ x < 91) ∨ (97 ≤ x ∧ x < 123) ∨ (192 ≤ x ∧ x < 215) ∨ (216 ≤ x ∧ x < 223) ∨ (224 ≤ x ∧ x < 247) ∨ (248 ≤ x ∧ x < 255) ∨ (383 ≤ x ∧ x < 384) ∨ (931 ≤ x ∧ x < 932) ∨ (962 ≤ x ∧ x < 964) ∨ (8490 ≤ x ∧ x < 8492))
def eCap (A : List Nat) (c : Nat) : Nat := A.length + (if A.getLast? = some c then 0 else 1)
theorem eCap_le (A : List Nat) (c : Nat) : A.length ≤ eCap A c ∧ eCap A c ≤ A.length + 1 := by
  unfold eCap
  split <;> omega
theorem eCap_no {A : List Nat} {c : Nat} : eCap A (c + 1) ≤ eCap A c + 1 := by
  have h1 := eCap_le A (c + 1)
  have h2 := eCap_le A c
  omega
theorem eCap_yes {A : List Nat} {c : Nat} (hA : eAsc A) (hc : ∀ y ∈ A, y ≤ c) : eCap (eTog (eTog A c) (c + 1)) (c + 1) ≤ eCap A c + 1 := by
  have h1 := eTog_ok hA hc
  rw [eTog_new (fun y hy => by have := h1.2.1 y hy; omega)]
  unfold eCap
  rw [List.getLast?_concat, if_pos rfl, List.length_append, List.length_singleton]
  unfold eTog
  split
  · rw [List.length_dropLast]
    omega
  · rw [List.length_append, List.length_singleton]
    omega
theorem casd_gap {hi lo x : Nat} (hgap : ∀ y, hi ≤ y → y < lo → casd y = false) (hle : hi ≤ lo) (b : Bool) : (decide (x < hi) && (casd x && b)) = (decide (x < lo) && (casd x && b)) := by
  by_cases h1 : x < hi
  · rw [decide_eq_true h1, decide_eq_true (by omega)]
  · rw [decide_eq_false h1]
    by_cases h2 : x < lo
    · rw [hgap x (by omega) h2]
      cases decide (x < lo) <;> rfl
    · rw [decide_eq_false h2]
theorem casd_0 (x : Nat) (b : Bool) : eMem [] x = (decide (x < 65) && (casd x && b)) := by
  rw [show eMem [] x = false from rfl]
  by_cases hx : x < 65
  · rw [show casd x = false from decide_eq_false (by omega)]
    simp
  · rw [decide_eq_false hx]
    rfl
theorem eTog2_mem {A : List Nat} {c : Nat} (hA : eAsc A) (hc : ∀ y ∈ A, y ≤ c) (x : Nat) : eMem (eTog (eTog A c) (c + 1)) x = (eMem A x != decide (x = c)) := by
  have h1 := eTog_ok hA hc
  have h2 := eTog_ok h1.1 (x := c + 1) (fun y hy => by have := h1.2.1 y hy; omega)
  rw [h2.2.2, h1.2.2]
  by_cases h3 : x = c
  · subst h3
    rw [decide_eq_true (Nat.le_refl x), decide_eq_false (by omega : ¬ x + 1 ≤ x), decide_eq_true rfl]
    cases eMem A x <;> rfl
  · rw [decide_eq_false h3]
    by_cases h4 : c ≤ x
    · rw [decide_eq_true h4, decide_eq_true (by omega : c + 1 ≤ x)]
      cases eMem A x <;> rfl
    · rw [decide_eq_false h4, decide_eq_false (by omega : ¬ c + 1 ≤ x)]
      cases eMem A x <;> rfl
section CA2
variable {X : wX}
set_option maxHeartbeats 4000000 in
set_option maxRecDepth 100000 in
theorem m_CA_collect (hT : xTab X) {h : wH} {p q : Nat} {E S A0 S0 : List Nat} (hm : hMS h p E S) (hq : hMS h q A0 S0) (hd : p + 3 ≤ q ∨ q + 3 ≤ p) (hA : eAsc E) (hE31 : ∀ y ∈ E, y < 2 ^ 31) : PM X M_CA_collectAlikes 2 0 0 [.ref p, .ref q] h (fun r h' => r = none ∧ ∃ A, hMS h' q A [] ∧ wOff h h' q 3 ∧ eAsc A ∧ (∀ y ∈ A, y ≤ 8492) ∧ A.length ≤ 128 ∧ ∀ x, eMem A x = (casd x && alk E x)) := by
  have hhm := hm
  have ghm := hq; obtain ⟨gf, gk, gp, ga, gb, gl1, gl2, ghf, ghk⟩ := hq
  refine PM.at (pl := [some (.ref p), some (.ref q), none, none]) rfl rfl (by simp [wle, wen]) ?_
  generalize hEN : wEm X 0 0 _ = EN
  have L : ∀ (n kk hi lo bd c : Nat) (A : List Nat) (h3 : wH), hi - c < n → kk + 1 < 20 → (tabL.getD 10 []).getD (kk + 1) 0 = hi → lo ≤ c → c ≤ hi → hi ≤ 8492 → 32 ≤ lo → (∀ x, lo ≤ x → x < hi → casd x = true) → bd + (hi - lo) ≤ 200 → (hMS h3 q A []) → (wOff h h3 q 3) → (eAsc A) → (∀ y ∈ A, y ≤ c) → (∀ x, eMem A x = (decide (x < c) && (casd x && alk E x))) → (eCap A c ≤ bd + (c - lo)) → (∀ (A' : List Nat) (h' : wH), (hMS h' q A' []) → (wOff h h' q 3) → (eAsc A') → (∀ y ∈ A', y ≤ hi) → (∀ x, eMem A' x = (decide (x < hi) && (casd x && alk E x))) → (eCap A' hi ≤ bd + (hi - lo)) → WP X M_CA_collectAlikes (wR 2 0 0) 0 EN 0 0 53 [some (.ref p), some (.ref q), some (.int (nI kk)), some (.int (nI hi))] [] h') → WP X M_CA_collectAlikes (wR 2 0 0) 0 EN 0 0 22 [some (.ref p), some (.ref q), some (.int (nI kk)), some (.int (nI c))] [] h3 := by
    intro n
    induction n with
    | zero => intro kk hi lo bd c A h3 k1; omega
    | succ n ih =>
      intro kk hi lo bd c A h3 k1 k2 k3 k4 k5 k6 k7 k8 k9 i1 i2 i3 i4 i5 i6 kend
      obtain ⟨tf, tk, tp, ta, tb, tl1, tl2, thf, thk⟩ := i1
      have i1 : hMS h3 q A [] := ⟨tf, tk, tp, ta, tb, tl1, tl2, thf, thk⟩
      have hcap := eCap_le A c
      refine w_iload_n d_CA_collectAlikes_22 rfl ?_
      refine w_gets (i := 10) d_CA_collectAlikes_23 (by decide +kernel) g_CA_12 ?_
      refine w_iload_n d_CA_collectAlikes_26 rfl ?_
      refine w_iconst (v := nI 1) d_CA_collectAlikes_27 (by decide) ?_
      refine w_iadd d_CA_collectAlikes_28 ?_
      refine w_topi (y := nI (kk + 1)) (nI_add _ _) ?_
      refine w_ti d_CA_collectAlikes_29 (hT 10 _ rfl) (vp_in_nI k2 (by decide)) ?_
      refine w_topi (y := nI hi) (by rw [nI_clamp (by omega)]; exact congrArg nI k3) ?_
      refine w_icmp_ge (tgt := 53) d_CA_collectAlikes_30 rfl (fun c30 => ?_) (fun c30 => ?_)
      · have c30 := (nI_leI (a := hi) (b := c) (by omega) (by omega)).mp c30
        have hce : c = hi := by omega
        subst hce
        exact kend A h3 i1 i2 i3 i4 i5 i6
      · have c30 : c < hi := Nat.not_le.mp (fun z => c30 ((nI_leI (a := hi) (b := c) (by omega) (by omega)).mpr z))
        refine w_aload_n d_CA_collectAlikes_33 rfl rfl ?_
        refine w_iload_n d_CA_collectAlikes_34 rfl ?_
        refine w_callS (as := [.ref p, .int (nI c)]) (st := []) d_CA_collectAlikes_35 yM_CA_isAlikeToMember l_CA_18 sM_CA_isAlikeToMember rfl rfl (m_CA_isAlike hT (hhm.off i2 (by omega)) hA hE31 (by omega) (by omega)) (by decide) (by decide) (by decide) (by decide) (Nat.le_of_ble_eq_true rfl) ?_
        rintro _ h9_1 ⟨rfl, e9_1⟩
        rw [e9_1]
        refine w_eq (st' := [.int (bI (alk E c))]) rfl ?_
        refine w_if_eq (tgt := 47) d_CA_collectAlikes_38 rfl (fun c38 => ?_) (fun c38 => ?_)
        · have c38 := bI_f c38
          refine w_iinc (v := nI (c + 1)) d_CA_collectAlikes_47 rfl (nI_1 _) (by decide) ?_
          refine w_goto (tgt := 22) d_CA_collectAlikes_50 rfl ?_
          refine ih kk hi lo bd (c + 1) A h3 (by omega) k2 k3 (by omega) (by omega) k6 k7 k8 k9 i1 i2 i3 (fun y hy => by have := i4 y hy; omega) (fun x => ?_) (by have := eCap_no (A := A) (c := c); omega) kend
          rw [i5 x]
          by_cases hx : x = c
          · subst hx; rw [c38, decide_eq_false (Nat.lt_irrefl x)]; simp
          · by_cases hx2 : x < c
            · rw [decide_eq_true hx2, decide_eq_true (by omega)]
            · rw [decide_eq_false hx2, decide_eq_false (by omega)]
        · have c38 := bI_t c38
          refine w_aload_n d_CA_collectAlikes_41 rfl rfl ?_
          refine w_iload_n d_CA_collectAlikes_42 rfl ?_
          refine w_iload_n d_CA_collectAlikes_43 rfl ?_
          refine w_callV (as := [.int (nI c), .int (nI c)]) (st := []) d_CA_collectAlikes_44 yM_MS_appendRange l_CA_22 vM_MS_appendRange tp rfl rfl rfl rfl (m_MS_appendRange i1 i3 i4 (Nat.le_refl _) (by omega) (by omega)) (by decide) (by decide) (by decide) (by decide) (Nat.le_of_ble_eq_true rfl) ?_
          rintro _ h4 ⟨rfl, hm4, ho4⟩
          refine w_eq (st' := []) rfl ?_
          refine w_iinc (v := nI (c + 1)) d_CA_collectAlikes_47 rfl (nI_1 _) (by decide) ?_
          refine w_goto (tgt := 22) d_CA_collectAlikes_50 rfl ?_
          have ht1 := eTog_ok i3 i4
          have ht2 := eTog_ok ht1.1 (x := c + 1) (fun y hy => by have := ht1.2.1 y hy; omega)
          refine ih kk hi lo bd (c + 1) _ h4 (by omega) k2 k3 (by omega) (by omega) k6 k7 k8 k9 hm4 (i2.tr ho4) ht2.1 ht2.2.1 (fun x => ?_) (by have := eCap_yes i3 i4; omega) kend
          rw [eTog2_mem i3 i4, i5 x]
          by_cases hx : x = c
          · subst hx; rw [c38, k8 x k4 c30, decide_eq_false (Nat.lt_irrefl x), decide_eq_true rfl, decide_eq_true (Nat.lt_succ_self x)]; rfl
          · rw [decide_eq_false hx]
            by_cases hx2 : x < c
            · rw [decide_eq_true hx2, decide_eq_true (by omega)]; simp
            · rw [decide_eq_false hx2, decide_eq_false (by omega)]; rfl
  refine w_aload_n d_CA_collectAlikes_0 rfl rfl ?_
  refine w_callV (as := []) (st := []) d_CA_collectAlikes_1 yM_MS_clear l_CA_7 vM_MS_clear gp rfl rfl rfl rfl (m_MS_clear ghm) (by decide) (by decide) (by decide) (by decide) (Nat.le_of_ble_eq_true rfl) ?_
  rintro _ h1 ⟨rfl, hm1, ho1⟩
  refine w_eq (st' := []) rfl ?_
  refine w_iconst (v := nI 0) d_CA_collectAlikes_4 (by decide) ?_
  refine w_istore_n d_CA_collectAlikes_5 (by decide) ?_
  refine w_iload_n d_CA_collectAlikes_6 rfl ?_
  refine w_iconst (v := nI 1) d_CA_collectAlikes_7 (by decide) ?_
  refine w_iadd d_CA_collectAlikes_8 ?_
  refine w_topi (y := nI 1) (by decide) ?_
  refine w_gets (i := 10) d_CA_collectAlikes_9 (by decide +kernel) g_CA_12 ?_
  refine w_tlen (v := nI 20) d_CA_collectAlikes_12 (hT 10 _ rfl) rfl ?_
  refine w_icmp_ge (tgt := 59) d_CA_collectAlikes_13 rfl (fun z => absurd z (by decide)) (fun _ => ?_)
  refine w_gets (i := 10) d_CA_collectAlikes_16 (by decide +kernel) g_CA_12 ?_
  refine w_iload_n d_CA_collectAlikes_19 rfl ?_
  refine w_ti d_CA_collectAlikes_20 (hT 10 _ rfl) (vp_in_nI (by decide) (by decide)) ?_
  refine w_topi (y := nI 65) (by decide) ?_
  refine w_istore_n d_CA_collectAlikes_21 (by decide) ?_
  refine L 200 0 91 65 1 65 [] h1 (by omega) (by omega) rfl (Nat.le_refl _) (by omega) (by omega) (by omega) (fun x q1 q2 => decide_eq_true (by omega)) (by omega) hm1 ho1 List.Pairwise.nil (fun y hy => by cases hy) (fun x => casd_0 x _) (by decide) (fun B1 g1 u1 v1 w1 x1 y1 z1 => ?_)
  refine w_iinc (v := nI 2) d_CA_collectAlikes_53 rfl (by decide) (by decide) ?_
  refine w_goto (tgt := 6) d_CA_collectAlikes_56 rfl ?_
  refine w_iload_n d_CA_collectAlikes_6 rfl ?_
  refine w_iconst (v := nI 1) d_CA_collectAlikes_7 (by decide) ?_
  refine w_iadd d_CA_collectAlikes_8 ?_
  refine w_topi (y := nI 3) (by decide) ?_
  refine w_gets (i := 10) d_CA_collectAlikes_9 (by decide +kernel) g_CA_12 ?_
  refine w_tlen (v := nI 20) d_CA_collectAlikes_12 (hT 10 _ rfl) rfl ?_
  refine w_icmp_ge (tgt := 59) d_CA_collectAlikes_13 rfl (fun z => absurd z (by decide)) (fun _ => ?_)
  refine w_gets (i := 10) d_CA_collectAlikes_16 (by decide +kernel) g_CA_12 ?_
  refine w_iload_n d_CA_collectAlikes_19 rfl ?_
  refine w_ti d_CA_collectAlikes_20 (hT 10 _ rfl) (vp_in_nI (by decide) (by decide)) ?_
  refine w_topi (y := nI 97) (by decide) ?_
  refine w_istore_n d_CA_collectAlikes_21 (by decide) ?_
  refine L 200 2 123 97 28 97 B1 g1 (by omega) (by omega) rfl (Nat.le_refl _) (by omega) (by omega) (by omega) (fun x q1 q2 => decide_eq_true (by omega)) (by omega) u1 v1 w1 (fun y hy => by have := x1 y hy; omega) (fun x => by rw [y1 x]; exact casd_gap (fun y q1 q2 => decide_eq_false (by omega)) (by omega) _) (by have q1 := eCap_le B1 91; have q2 := eCap_le B1 97; omega) (fun B2 g2 u2 v2 w2 x2 y2 z2 => ?_)
  refine w_iinc (v := nI 4) d_CA_collectAlikes_53 rfl (by decide) (by decide) ?_
  refine w_goto (tgt := 6) d_CA_collectAlikes_56 rfl ?_
  refine w_iload_n d_CA_collectAlikes_6 rfl ?_
  refine w_iconst (v := nI 1) d_CA_collectAlikes_7 (by decide) ?_
  refine w_iadd d_CA_collectAlikes_8 ?_
  refine w_topi (y := nI 5) (by decide) ?_
  refine w_gets (i := 10) d_CA_collectAlikes_9 (by decide +kernel) g_CA_12 ?_
  refine w_tlen (v := nI 20) d_CA_collectAlikes_12 (hT 10 _ rfl) rfl ?_
  refine w_icmp_ge (tgt := 59) d_CA_collectAlikes_13 rfl (fun z => absurd z (by decide)) (fun _ => ?_)
  refine w_gets (i := 10) d_CA_collectAlikes_16 (by decide +kernel) g_CA_12 ?_
  refine w_iload_n d_CA_collectAlikes_19 rfl ?_
  refine w_ti d_CA_collectAlikes_20 (hT 10 _ rfl) (vp_in_nI (by decide) (by decide)) ?_
  refine w_topi (y := nI 192) (by decide) ?_
  refine w_istore_n d_CA_collectAlikes_21 (by decide) ?_
  refine L 200 4 215 192 55 192 B2 g2 (by omega) (by omega) rfl (Nat.le_refl _) (by omega) (by omega) (by omega) (fun x q1 q2 => decide_eq_true (by omega)) (by omega) u2 v2 w2 (fun y hy => by have := x2 y hy; omega) (fun x => by rw [y2 x]; exact casd_gap (fun y q1 q2 => decide_eq_false (by omega)) (by omega) _) (by have q1 := eCap_le B2 123; have q2 := eCap_le B2 192; omega) (fun B3 g3 u3 v3 w3 x3 y3 z3 => ?_)
  refine w_iinc (v := nI 6) d_CA_collectAlikes_53 rfl (by decide) (by decide) ?_
  refine w_goto (tgt := 6) d_CA_collectAlikes_56 rfl ?_
  refine w_iload_n d_CA_collectAlikes_6 rfl ?_
  refine w_iconst (v := nI 1) d_CA_collectAlikes_7 (by decide) ?_
  refine w_iadd d_CA_collectAlikes_8 ?_
  refine w_topi (y := nI 7) (by decide) ?_
  refine w_gets (i := 10) d_CA_collectAlikes_9 (by decide +kernel) g_CA_12 ?_
  refine w_tlen (v := nI 20) d_CA_collectAlikes_12 (hT 10 _ rfl) rfl ?_
  refine w_icmp_ge (tgt := 59) d_CA_collectAlikes_13 rfl (fun z => absurd z (by decide)) (fun _ => ?_)
  refine w_gets (i := 10) d_CA_collectAlikes_16 (by decide +kernel) g_CA_12 ?_
  refine w_iload_n d_CA_collectAlikes_19 rfl ?_
  refine w_ti d_CA_collectAlikes_20 (hT 10 _ rfl) (vp_in_nI (by decide) (by decide)) ?_
  refine w_topi (y := nI 216) (by decide) ?_
  refine w_istore_n d_CA_collectAlikes_21 (by decide) ?_
  refine L 200 6 223 216 79 216 B3 g3 (by omega) (by omega) rfl (Nat.le_refl _) (by omega) (by omega) (by omega) (fun x q1 q2 => decide_eq_true (by omega)) (by omega) u3 v3 w3 (fun y hy => by have := x3 y hy; omega) (fun x => by rw [y3 x]; exact casd_gap (fun y q1 q2 => decide_eq_false (by omega)) (by omega) _) (by have q1 := eCap_le B3 215; have q2 := eCap_le B3 216; omega) (fun B4 g4 u4 v4 w4 x4 y4 z4 => ?_)
  refine w_iinc (v := nI 8) d_CA_collectAlikes_53 rfl (by decide) (by decide) ?_
  refine w_goto (tgt := 6) d_CA_collectAlikes_56 rfl ?_
  refine w_iload_n d_CA_collectAlikes_6 rfl ?_
  refine w_iconst (v := nI 1) d_CA_collectAlikes_7 (by decide) ?_
  refine w_iadd d_CA_collectAlikes_8 ?_
  refine w_topi (y := nI 9) (by decide) ?_
  refine w_gets (i := 10) d_CA_collectAlikes_9 (by decide +kernel) g_CA_12 ?_
  refine w_tlen (v := nI 20) d_CA_collectAlikes_12 (hT 10 _ rfl) rfl ?_
  refine w_icmp_ge (tgt := 59) d_CA_collectAlikes_13 rfl (fun z => absurd z (by decide)) (fun _ => ?_)
  refine w_gets (i := 10) d_CA_collectAlikes_16 (by decide +kernel) g_CA_12 ?_
  refine w_iload_n d_CA_collectAlikes_19 rfl ?_
  refine w_ti d_CA_collectAlikes_20 (hT 10 _ rfl) (vp_in_nI (by decide) (by decide)) ?_
  refine w_topi (y := nI 224) (by decide) ?_
  refine w_istore_n d_CA_collectAlikes_21 (by decide) ?_
  refine L 200 8 247 224 87 224 B4 g4 (by omega) (by omega) rfl (Nat.le_refl _) (by omega) (by omega) (by omega) (fun x q1 q2 => decide_eq_true (by omega)) (by omega) u4 v4 w4 (fun y hy => by have := x4 y hy; omega) (fun x => by rw [y4 x]; exact casd_gap (fun y q1 q2 => decide_eq_false (by omega)) (by omega) _) (by have q1 := eCap_le B4 223; have q2 := eCap_le B4 224; omega) (fun B5 g5 u5 v5 w5 x5 y5 z5 => ?_)
  refine w_iinc (v := nI 10) d_CA_collectAlikes_53 rfl (by decide) (by decide) ?_
  refine w_goto (tgt := 6) d_CA_collectAlikes_56 rfl ?_
  refine w_iload_n d_CA_collectAlikes_6 rfl ?_
  refine w_iconst (v := nI 1) d_CA_collectAlikes_7 (by decide) ?_
  refine w_iadd d_CA_collectAlikes_8 ?_
  refine w_topi (y := nI 11) (by decide) ?_
  refine w_gets (i := 10) d_CA_collectAlikes_9 (by decide +kernel) g_CA_12 ?_
  refine w_tlen (v := nI 20) d_CA_collectAlikes_12 (hT 10 _ rfl) rfl ?_
  refine w_icmp_ge (tgt := 59) d_CA_collectAlikes_13 rfl (fun z => absurd z (by decide)) (fun _ => ?_)
  refine w_gets (i := 10) d_CA_collectAlikes_16 (by decide +kernel) g_CA_12 ?_
  refine w_iload_n d_CA_collectAlikes_19 rfl ?_
  refine w_ti d_CA_collectAlikes_20 (hT 10 _ rfl) (vp_in_nI (by decide) (by decide)) ?_
  refine w_topi (y := nI 248) (by decide) ?_
  refine w_istore_n d_CA_collectAlikes_21 (by decide) ?_
  refine L 200 10 255 248 111 248 B5 g5 (by omega) (by omega) rfl (Nat.le_refl _) (by omega) (by omega) (by omega) (fun x q1 q2 => decide_eq_true (by omega)) (by omega) u5 v5 w5 (fun y hy => by have := x5 y hy; omega) (fun x => by rw [y5 x]; exact casd_gap (fun y q1 q2 => decide_eq_false (by omega)) (by omega) _) (by have q1 := eCap_le B5 247; have q2 := eCap_le B5 248; omega) (fun B6 g6 u6 v6 w6 x6 y6 z6 => ?_)
  refine w_iinc (v := nI 12) d_CA_collectAlikes_53 rfl (by decide) (by decide) ?_
  refine w_goto (tgt := 6) d_CA_collectAlikes_56 rfl ?_
  refine w_iload_n d_CA_collectAlikes_6 rfl ?_
  refine w_iconst (v := nI 1) d_CA_collectAlikes_7 (by decide) ?_
  refine w_iadd d_CA_collectAlikes_8 ?_
  refine w_topi (y := nI 13) (by decide) ?_
  refine w_gets (i := 10) d_CA_collectAlikes_9 (by decide +kernel) g_CA_12 ?_
  refine w_tlen (v := nI 20) d_CA_collectAlikes_12 (hT 10 _ rfl) rfl ?_
  refine w_icmp_ge (tgt := 59) d_CA_collectAlikes_13 rfl (fun z => absurd z (by decide)) (fun _ => ?_)
  refine w_gets (i := 10) d_CA_collectAlikes_16 (by decide +kernel) g_CA_12 ?_
  refine w_iload_n d_CA_collectAlikes_19 rfl ?_
  refine w_ti d_CA_collectAlikes_20 (hT 10 _ rfl) (vp_in_nI (by decide) (by decide)) ?_
  refine w_topi (y := nI 383) (by decide) ?_
  refine w_istore_n d_CA_collectAlikes_21 (by decide) ?_
  refine L 200 12 384 383 119 383 B6 g6 (by omega) (by omega) rfl (Nat.le_refl _) (by omega) (by omega) (by omega) (fun x q1 q2 => decide_eq_true (by omega)) (by omega) u6 v6 w6 (fun y hy => by have := x6 y hy; omega) (fun x => by rw [y6 x]; exact casd_gap (fun y q1 q2 => decide_eq_false (by omega)) (by omega) _) (by have q1 := eCap_le B6 255; have q2 := eCap_le B6 383; omega) (fun B7 g7 u7 v7 w7 x7 y7 z7 => ?_)
  refine w_iinc (v := nI 14) d_CA_collectAlikes_53 rfl (by decide) (by decide) ?_
  refine w_goto (tgt := 6) d_CA_collectAlikes_56 rfl ?_
  refine w_iload_n d_CA_collectAlikes_6 rfl ?_
  refine w_iconst (v := nI 1) d_CA_collectAlikes_7 (by decide) ?_
  refine w_iadd d_CA_collectAlikes_8 ?_
  refine w_topi (y := nI 15) (by decide) ?_
  refine w_gets (i := 10) d_CA_collectAlikes_9 (by decide +kernel) g_CA_12 ?_
  refine w_tlen (v := nI 20) d_CA_collectAlikes_12 (hT 10 _ rfl) rfl ?_
  refine w_icmp_ge (tgt := 59) d_CA_collectAlikes_13 rfl (fun z => absurd z (by decide)) (fun _ => ?_)
  refine w_gets (i := 10) d_CA_collectAlikes_16 (by decide +kernel) g_CA_12 ?_
  refine w_iload_n d_CA_collectAlikes_19 rfl ?_
  refine w_ti d_CA_collectAlikes_20 (hT 10 _ rfl) (vp_in_nI (by decide) (by decide)) ?_
  refine w_topi (y := nI 931) (by decide) ?_
  refine w_istore_n d_CA_collectAlikes_21 (by decide) ?_
  refine L 200 14 932 931 121 931 B7 g7 (by omega) (by omega) rfl (Nat.le_refl _) (by omega) (by omega) (by omega) (fun x q1 q2 => decide_eq_true (by omega)) (by omega) u7 v7 w7 (fun y hy => by have := x7 y hy; omega) (fun x => by rw [y7 x]; exact casd_gap (fun y q1 q2 => decide_eq_false (by omega)) (by omega) _) (by have q1 := eCap_le B7 384; have q2 := eCap_le B7 931; omega) (fun B8 g8 u8 v8 w8 x8 y8 z8 => ?_)
  refine w_iinc (v := nI 16) d_CA_collectAlikes_53 rfl (by decide) (by decide) ?_
  refine w_goto (tgt := 6) d_CA_collectAlikes_56 rfl ?_
  refine w_iload_n d_CA_collectAlikes_6 rfl ?_
  refine w_iconst (v := nI 1) d_CA_collectAlikes_7 (by decide) ?_
  refine w_iadd d_CA_collectAlikes_8 ?_
  refine w_topi (y := nI 17) (by decide) ?_
  refine w_gets (i := 10) d_CA_collectAlikes_9 (by decide +kernel) g_CA_12 ?_
  refine w_tlen (v := nI 20) d_CA_collectAlikes_12 (hT 10 _ rfl) rfl ?_
  refine w_icmp_ge (tgt := 59) d_CA_collectAlikes_13 rfl (fun z => absurd z (by decide)) (fun _ => ?_)
  refine w_gets (i := 10) d_CA_collectAlikes_16 (by decide +kernel) g_CA_12 ?_
  refine w_iload_n d_CA_collectAlikes_19 rfl ?_
  refine w_ti d_CA_collectAlikes_20 (hT 10 _ rfl) (vp_in_nI (by decide) (by decide)) ?_
  refine w_topi (y := nI 962) (by decide) ?_
  refine w_istore_n d_CA_collectAlikes_21 (by decide) ?_
  refine L 200 16 964 962 123 962 B8 g8 (by omega) (by omega) rfl (Nat.le_refl _) (by omega) (by omega) (by omega) (fun x q1 q2 => decide_eq_true (by omega)) (by omega) u8 v8 w8 (fun y hy => by have := x8 y hy; omega) (fun x => by rw [y8 x]; exact casd_gap (fun y q1 q2 => decide_eq_false (by omega)) (by omega) _) (by have q1 := eCap_le B8 932; have q2 := eCap_le B8 962; omega) (fun B9 g9 u9 v9 w9 x9 y9 z9 => ?_)
  refine w_iinc (v := nI 18) d_CA_collectAlikes_53 rfl (by decide) (by decide) ?_
  refine w_goto (tgt := 6) d_CA_collectAlikes_56 rfl ?_
  refine w_iload_n d_CA_collectAlikes_6 rfl ?_
  refine w_iconst (v := nI 1) d_CA_collectAlikes_7 (by decide) ?_
  refine w_iadd d_CA_collectAlikes_8 ?_
  refine w_topi (y := nI 19) (by decide) ?_
  refine w_gets (i := 10) d_CA_collectAlikes_9 (by decide +kernel) g_CA_12 ?_
  refine w_tlen (v := nI 20) d_CA_collectAlikes_12 (hT 10 _ rfl) rfl ?_
  refine w_icmp_ge (tgt := 59) d_CA_collectAlikes_13 rfl (fun z => absurd z (by decide)) (fun _ => ?_)
  refine w_gets (i := 10) d_CA_collectAlikes_16 (by decide +kernel) g_CA_12 ?_
  refine w_iload_n d_CA_collectAlikes_19 rfl ?_
  refine w_ti d_CA_collectAlikes_20 (hT 10 _ rfl) (vp_in_nI (by decide) (by decide)) ?_
  refine w_topi (y := nI 8490) (by decide) ?_
  refine w_istore_n d_CA_collectAlikes_21 (by decide) ?_
  refine L 200 18 8492 8490 126 8490 B9 g9 (by omega) (by omega) rfl (Nat.le_refl _) (by omega) (by omega) (by omega) (fun x q1 q2 => decide_eq_true (by omega)) (by omega) u9 v9 w9 (fun y hy => by have := x9 y hy; omega) (fun x => by rw [y9 x]; exact casd_gap (fun y q1 q2 => decide_eq_false (by omega)) (by omega) _) (by have q1 := eCap_le B9 964; have q2 := eCap_le B9 8490; omega) (fun B10 g10 u10 v10 w10 x10 y10 z10 => ?_)
  refine w_iinc (v := nI 20) d_CA_collectAlikes_53 rfl (by decide) (by decide) ?_
  refine w_goto (tgt := 6) d_CA_collectAlikes_56 rfl ?_
  refine w_iload_n d_CA_collectAlikes_6 rfl ?_
  refine w_iconst (v := nI 1) d_CA_collectAlikes_7 (by decide) ?_
  refine w_iadd d_CA_collectAlikes_8 ?_
  refine w_topi (y := nI 21) (by decide) ?_
  refine w_gets (i := 10) d_CA_collectAlikes_9 (by decide +kernel) g_CA_12 ?_
  refine w_tlen (v := nI 20) d_CA_collectAlikes_12 (hT 10 _ rfl) rfl ?_
  refine w_icmp_ge (tgt := 59) d_CA_collectAlikes_13 rfl (fun _ => ?_) (fun z => absurd (by decide) z)
  rw [← hEN]
  refine w_vret d_CA_collectAlikes_59 rfl ?_
  refine ⟨rfl, B10, u10, v10, w10, x10, (by have := eCap_le B10 8492; omega), fun x => ?_⟩
  rw [y10 x]
  by_cases hx : x < 8492
  · rw [decide_eq_true hx]; rfl
  · rw [show casd x = false from decide_eq_false (by omega), decide_eq_false hx]; rfl
end CA2
end
section
/-! PatternWriter: written by wip/gen/pw.py -/
/-- the writer at place p has been given the numbers o: as many as fit stand in its row -/
def hPW (h : wH) (p : Nat) (o : List Nat) : Prop := h[p]? = some (.inr (4, [.ref (p + 1), .int (bI (decide (o.length ≤ 60)))])) ∧ hCR h (p + 1) (o.take 60)
def dg (d : Nat) : Nat := if d < 10 then 48 + d else 97 + d - 10
def hx (c : Nat) : List Nat :=
  if c / 2 ^ 20 ≠ 0 then [dg (c / 2 ^ 20 % 16), dg (c / 2 ^ 16 % 16), dg (c / 2 ^ 12 % 16), dg (c / 2 ^ 8 % 16), dg (c / 2 ^ 4 % 16), dg (c / 2 ^ 0 % 16)] else if c / 2 ^ 16 ≠ 0 then [dg (c / 2 ^ 16 % 16), dg (c / 2 ^ 12 % 16), dg (c / 2 ^ 8 % 16), dg (c / 2 ^ 4 % 16), dg (c / 2 ^ 0 % 16)] else if c / 2 ^ 12 ≠ 0 then [dg (c / 2 ^ 12 % 16), dg (c / 2 ^ 8 % 16), dg (c / 2 ^ 4 % 16), dg (c / 2 ^ 0 % 16)] else if c / 2 ^ 8 ≠ 0 then [dg (c / 2 ^ 8 % 16), dg (c / 2 ^ 4 % 16), dg (c / 2 ^ 0 % 16)] else if c / 2 ^ 4 ≠ 0 then [dg (c / 2 ^ 4 % 16), dg (c / 2 ^ 0 % 16)] else [dg (c / 2 ^ 0 % 16)]
def sgn (c : Nat) : Bool := decide (c = 38 ∨ c = 45 ∨ c = 58 ∨ c = 91 ∨ c = 92 ∨ c = 93 ∨ c = 94 ∨ c = 123 ∨ c = 125)
/-- a code point as it is printed -/
def cT (c : Nat) : List Nat := if c < 33 ∨ 126 < c then [92] ++ [120] ++ [123] ++ hx c ++ [125] else if sgn c = true then [92] ++ [c] else [c]
def rT (a b : Nat) : List Nat := cT a ++ (if b = a then [] else (if a + 1 < b then [45] else []) ++ cT b)
def sA (k : Nat) : Nat := k / 4398046511104 - 1
def sB (k : Nat) : Nat := k / 2097152 % 2097152 - 1
def sC (k : Nat) : Nat := k % 2097152
def sT (k : Nat) : List Nat := [123] ++ cT (sA k) ++ cT (sB k) ++ (if sC k = 0 then [] else cT (sC k - 1)) ++ [125]
/-- a key is one of a string -/
def sOk (k : Nat) : Prop := ∃ a b t, a < 1114112 ∧ b < 1114112 ∧ t ≤ 1114112 ∧ k = kOf a b t
theorem sOk_abc {a b t : Nat} (ha : a < 1114112) (hb : b < 1114112) (ht : t ≤ 1114112) : sA (kOf a b t) = a ∧ sB (kOf a b t) = b ∧ sC (kOf a b t) = t := by
  unfold sA sB sC kOf
  omega
theorem hPW_put {h h1 : wH} {p c : Nat} {o : List Nat} (hp : h[p]? = some (.inr (4, [.ref (p + 1), .int (bI (decide (o.length ≤ 60)))]))) (hr : hCR h1 (p + 1) (if (o.take 60).length < 60 then o.take 60 ++ [c] else o.take 60)) : hCR h1 (p + 1) ((o ++ [c]).take 60) := by
  rw [List.length_take] at hr
  by_cases ho : o.length < 60
  · rw [if_pos (by omega), List.take_of_length_le (by omega)] at hr
    rw [List.take_of_length_le (by rw [List.length_append, List.length_singleton]; omega)]
    exact hr
  · rw [if_neg (by omega)] at hr
    rw [List.take_append_of_le_length (by omega)]
    exact hr
theorem wOff.wide {h h' : wH} {p n q m : Nat} (a : wOff h h' p n) (h1 : q ≤ p) (h2 : p + n ≤ q + m) : wOff h h' q m := fun k hk => a k (by omega)
theorem nI_nm1 {n : Nat} (h : n < 2 ^ 31) : ¬ nI n = -1 := fun q => by
  have a := nI_toInt h
  rw [q] at a
  have b : ((-1 : Int32)).toInt = -1 := by decide
  omega
section PW
variable {X : wX}
set_option maxHeartbeats 4000000 in
set_option maxRecDepth 100000 in
theorem m_PW_put {h : wH} {p c : Nat} {o : List Nat} (hw : hPW h p o) : PM X M_PW_put 1 0 0 [.ref p, .int (nI c)] h (fun r h' => r = none ∧ hPW h' p (o ++ [c]) ∧ wOff h h' p 3) := by
  obtain ⟨hp, hrow⟩ := hw; have hpr := hrow.choose_spec.1
  refine PM.at (pl := [some (.ref p), some (.int (nI c))]) rfl rfl (by simp [wle, wen]) ?_
  generalize hEN : wEm X 0 0 _ = EN
  refine w_aload_n d_PW_put_0 rfl rfl ?_
  refine w_get d_PW_put_1 f_PW_12 hp rfl ?_
  refine w_iload_n d_PW_put_4 rfl ?_
  refine w_callV (as := [.int (nI c)]) (st := []) d_PW_put_5 yM_CR_append l_PW_68 vM_CR_append hpr rfl rfl rfl rfl (m_CR_append (x := c) hrow) (by decide) (by decide) (by decide) (by decide) (Nat.le_of_ble_eq_true rfl) ?_
  rintro _ h1 ⟨rfl, hr1, ho1⟩
  refine w_eq (st' := [.int (nI (if (o.take 60).length < 60 then 1 else 0))]) rfl ?_
  have kp := (ho1 p (by omega)).trans hp
  have hr2 := hPW_put hp hr1
  refine w_if_ne (tgt := 16) d_PW_put_8 rfl (fun c8 => ?_) (fun c8 => ?_)
  · have c8 : o.length < 60 := by
      rcases Nat.lt_or_ge o.length 60 with z | z
      · exact z
      · rw [if_neg (by rw [List.length_take]; omega)] at c8; exact absurd rfl c8
    rw [← hEN]
    refine w_vret d_PW_put_16 rfl ?_
    first
      | (refine ⟨rfl, ⟨?_, hr2⟩, ho1.wide (by omega) (by omega)⟩
         rw [decide_eq_true (by omega)] at kp
         rw [decide_eq_true (by rw [List.length_append, List.length_singleton]; omega)]
         exact kp)
      | (refine ⟨rfl, ⟨?_, ?_⟩, fun k hk => ?_⟩
         · rw [decide_eq_false (by rw [List.length_append, List.length_singleton]; omega)]
           exact kp_1
         · obtain ⟨rf, r1, r2, r3⟩ := hr2
           exact ⟨rf, by rw [wS_off e1 (by omega)]; exact r1, by rw [wS_off e1 (by omega)]; exact r2, r3⟩
         · rw [wS_off e1 (by omega), ho1 k (by omega)])
  · have c8 : ¬ o.length < 60 := fun z => by rw [if_pos (by rw [List.length_take]; omega)] at c8; exact absurd c8 (by decide)
    refine w_aload_n d_PW_put_11 rfl rfl ?_
    refine w_iconst (v := nI 0) d_PW_put_12 (by decide) ?_
    refine w_put d_PW_put_13 f_PW_21 rfl kp rfl rfl rfl ?_
    refine w_nm (fun h1 e1 => ?_)
    have kp_1 := wS_eq e1 kp
    rw [← hEN]
    refine w_vret d_PW_put_16 rfl ?_
    first
      | (refine ⟨rfl, ⟨?_, hr2⟩, ho1.wide (by omega) (by omega)⟩
         rw [decide_eq_true (by omega)] at kp
         rw [decide_eq_true (by rw [List.length_append, List.length_singleton]; omega)]
         exact kp)
      | (refine ⟨rfl, ⟨?_, ?_⟩, fun k hk => ?_⟩
         · rw [decide_eq_false (by rw [List.length_append, List.length_singleton]; omega)]
           exact kp_1
         · obtain ⟨rf, r1, r2, r3⟩ := hr2
           exact ⟨rf, by rw [wS_off e1 (by omega)]; exact r1, by rw [wS_off e1 (by omega)]; exact r2, r3⟩
         · rw [wS_off e1 (by omega), ho1 k (by omega)])
set_option maxHeartbeats 4000000 in
set_option maxRecDepth 100000 in
theorem m_PW_isSign_38 {h : wH} : PM X M_PW_isSign 0 0 0 [.int (nI 38)] h (fun r h' => r = some (.int (nI 1)) ∧ h' = h) := by
  refine PM.at (pl := [some (.int (nI 38))]) rfl rfl (by simp [wle, wen]) ?_
  generalize hEN : wEm X 0 0 _ = EN
  refine w_iload_n d_PW_isSign_0 rfl ?_
  refine w_lookup (off := 83) (tgt := 84) d_PW_isSign_1 (by decide) (by decide) (by decide) ?_
  refine w_iconst (v := nI 1) d_PW_isSign_84 (by decide) ?_
  rw [← hEN]
  refine w_zret d_PW_isSign_85 rfl (by first | exact Or.inl rfl | exact Or.inr rfl) ?_
  exact ⟨rfl, rfl⟩
set_option maxHeartbeats 4000000 in
set_option maxRecDepth 100000 in
theorem m_PW_isSign_45 {h : wH} : PM X M_PW_isSign 0 0 0 [.int (nI 45)] h (fun r h' => r = some (.int (nI 1)) ∧ h' = h) := by
  refine PM.at (pl := [some (.int (nI 45))]) rfl rfl (by simp [wle, wen]) ?_
  generalize hEN : wEm X 0 0 _ = EN
  refine w_iload_n d_PW_isSign_0 rfl ?_
  refine w_lookup (off := 83) (tgt := 84) d_PW_isSign_1 (by decide) (by decide) (by decide) ?_
  refine w_iconst (v := nI 1) d_PW_isSign_84 (by decide) ?_
  rw [← hEN]
  refine w_zret d_PW_isSign_85 rfl (by first | exact Or.inl rfl | exact Or.inr rfl) ?_
  exact ⟨rfl, rfl⟩
set_option maxHeartbeats 4000000 in
set_option maxRecDepth 100000 in
theorem m_PW_isSign_58 {h : wH} : PM X M_PW_isSign 0 0 0 [.int (nI 58)] h (fun r h' => r = some (.int (nI 1)) ∧ h' = h) := by
  refine PM.at (pl := [some (.int (nI 58))]) rfl rfl (by simp [wle, wen]) ?_
  generalize hEN : wEm X 0 0 _ = EN
  refine w_iload_n d_PW_isSign_0 rfl ?_
  refine w_lookup (off := 83) (tgt := 84) d_PW_isSign_1 (by decide) (by decide) (by decide) ?_
  refine w_iconst (v := nI 1) d_PW_isSign_84 (by decide) ?_
  rw [← hEN]
  refine w_zret d_PW_isSign_85 rfl (by first | exact Or.inl rfl | exact Or.inr rfl) ?_
  exact ⟨rfl, rfl⟩
set_option maxHeartbeats 4000000 in
set_option maxRecDepth 100000 in
theorem m_PW_isSign_91 {h : wH} : PM X M_PW_isSign 0 0 0 [.int (nI 91)] h (fun r h' => r = some (.int (nI 1)) ∧ h' = h) := by
  refine PM.at (pl := [some (.int (nI 91))]) rfl rfl (by simp [wle, wen]) ?_
  generalize hEN : wEm X 0 0 _ = EN
  refine w_iload_n d_PW_isSign_0 rfl ?_
  refine w_lookup (off := 83) (tgt := 84) d_PW_isSign_1 (by decide) (by decide) (by decide) ?_
  refine w_iconst (v := nI 1) d_PW_isSign_84 (by decide) ?_
  rw [← hEN]
  refine w_zret d_PW_isSign_85 rfl (by first | exact Or.inl rfl | exact Or.inr rfl) ?_
  exact ⟨rfl, rfl⟩
set_option maxHeartbeats 4000000 in
set_option maxRecDepth 100000 in
theorem m_PW_isSign_92 {h : wH} : PM X M_PW_isSign 0 0 0 [.int (nI 92)] h (fun r h' => r = some (.int (nI 1)) ∧ h' = h) := by
  refine PM.at (pl := [some (.int (nI 92))]) rfl rfl (by simp [wle, wen]) ?_
  generalize hEN : wEm X 0 0 _ = EN
  refine w_iload_n d_PW_isSign_0 rfl ?_
  refine w_lookup (off := 83) (tgt := 84) d_PW_isSign_1 (by decide) (by decide) (by decide) ?_
  refine w_iconst (v := nI 1) d_PW_isSign_84 (by decide) ?_
  rw [← hEN]
  refine w_zret d_PW_isSign_85 rfl (by first | exact Or.inl rfl | exact Or.inr rfl) ?_
  exact ⟨rfl, rfl⟩
set_option maxHeartbeats 4000000 in
set_option maxRecDepth 100000 in
theorem m_PW_isSign_93 {h : wH} : PM X M_PW_isSign 0 0 0 [.int (nI 93)] h (fun r h' => r = some (.int (nI 1)) ∧ h' = h) := by
  refine PM.at (pl := [some (.int (nI 93))]) rfl rfl (by simp [wle, wen]) ?_
  generalize hEN : wEm X 0 0 _ = EN
  refine w_iload_n d_PW_isSign_0 rfl ?_
  refine w_lookup (off := 83) (tgt := 84) d_PW_isSign_1 (by decide) (by decide) (by decide) ?_
  refine w_iconst (v := nI 1) d_PW_isSign_84 (by decide) ?_
  rw [← hEN]
  refine w_zret d_PW_isSign_85 rfl (by first | exact Or.inl rfl | exact Or.inr rfl) ?_
  exact ⟨rfl, rfl⟩
set_option maxHeartbeats 4000000 in
set_option maxRecDepth 100000 in
theorem m_PW_isSign_94 {h : wH} : PM X M_PW_isSign 0 0 0 [.int (nI 94)] h (fun r h' => r = some (.int (nI 1)) ∧ h' = h) := by
  refine PM.at (pl := [some (.int (nI 94))]) rfl rfl (by simp [wle, wen]) ?_
  generalize hEN : wEm X 0 0 _ = EN
  refine w_iload_n d_PW_isSign_0 rfl ?_
  refine w_lookup (off := 83) (tgt := 84) d_PW_isSign_1 (by decide) (by decide) (by decide) ?_
  refine w_iconst (v := nI 1) d_PW_isSign_84 (by decide) ?_
  rw [← hEN]
  refine w_zret d_PW_isSign_85 rfl (by first | exact Or.inl rfl | exact Or.inr rfl) ?_
  exact ⟨rfl, rfl⟩
set_option maxHeartbeats 4000000 in
set_option maxRecDepth 100000 in
theorem m_PW_isSign_123 {h : wH} : PM X M_PW_isSign 0 0 0 [.int (nI 123)] h (fun r h' => r = some (.int (nI 1)) ∧ h' = h) := by
  refine PM.at (pl := [some (.int (nI 123))]) rfl rfl (by simp [wle, wen]) ?_
  generalize hEN : wEm X 0 0 _ = EN
  refine w_iload_n d_PW_isSign_0 rfl ?_
  refine w_lookup (off := 83) (tgt := 84) d_PW_isSign_1 (by decide) (by decide) (by decide) ?_
  refine w_iconst (v := nI 1) d_PW_isSign_84 (by decide) ?_
  rw [← hEN]
  refine w_zret d_PW_isSign_85 rfl (by first | exact Or.inl rfl | exact Or.inr rfl) ?_
  exact ⟨rfl, rfl⟩
set_option maxHeartbeats 4000000 in
set_option maxRecDepth 100000 in
theorem m_PW_isSign_125 {h : wH} : PM X M_PW_isSign 0 0 0 [.int (nI 125)] h (fun r h' => r = some (.int (nI 1)) ∧ h' = h) := by
  refine PM.at (pl := [some (.int (nI 125))]) rfl rfl (by simp [wle, wen]) ?_
  generalize hEN : wEm X 0 0 _ = EN
  refine w_iload_n d_PW_isSign_0 rfl ?_
  refine w_lookup (off := 83) (tgt := 84) d_PW_isSign_1 (by decide) (by decide) (by decide) ?_
  refine w_iconst (v := nI 1) d_PW_isSign_84 (by decide) ?_
  rw [← hEN]
  refine w_zret d_PW_isSign_85 rfl (by first | exact Or.inl rfl | exact Or.inr rfl) ?_
  exact ⟨rfl, rfl⟩
set_option maxHeartbeats 4000000 in
set_option maxRecDepth 100000 in
theorem m_PW_isSign_n {h : wH} {c : Nat} (hc : c < 2 ^ 31) (hn : ¬ (c = 38 ∨ c = 45 ∨ c = 58 ∨ c = 91 ∨ c = 92 ∨ c = 93 ∨ c = 94 ∨ c = 123 ∨ c = 125)) : PM X M_PW_isSign 0 0 0 [.int (nI c)] h (fun r h' => r = some (.int (nI 0)) ∧ h' = h) := by
  refine PM.at (pl := [some (.int (nI c))]) rfl rfl (by simp [wle, wen]) ?_
  generalize hEN : wEm X 0 0 _ = EN
  refine w_iload_n d_PW_isSign_0 rfl ?_
  refine w_lookup (off := 85) (tgt := 86) d_PW_isSign_1 (by decide) (by show Op.lookupswitch.offset [(38, 83), (45, 83), (58, 83), (91, 83), (92, 83), (93, 83), (94, 83), (123, 83), (125, 83)] 85 (nI c).toInt = 85; rw [lv_osw (k := nI 38) (fun z => hn (by have := (nI_eq hc (by decide)).mp z; omega)) (by decide), lv_osw (k := nI 45) (fun z => hn (by have := (nI_eq hc (by decide)).mp z; omega)) (by decide), lv_osw (k := nI 58) (fun z => hn (by have := (nI_eq hc (by decide)).mp z; omega)) (by decide), lv_osw (k := nI 91) (fun z => hn (by have := (nI_eq hc (by decide)).mp z; omega)) (by decide), lv_osw (k := nI 92) (fun z => hn (by have := (nI_eq hc (by decide)).mp z; omega)) (by decide), lv_osw (k := nI 93) (fun z => hn (by have := (nI_eq hc (by decide)).mp z; omega)) (by decide), lv_osw (k := nI 94) (fun z => hn (by have := (nI_eq hc (by decide)).mp z; omega)) (by decide), lv_osw (k := nI 123) (fun z => hn (by have := (nI_eq hc (by decide)).mp z; omega)) (by decide), lv_osw (k := nI 125) (fun z => hn (by have := (nI_eq hc (by decide)).mp z; omega)) (by decide)]; rfl) (by decide) ?_
  refine w_iconst (v := nI 0) d_PW_isSign_86 (by decide) ?_
  rw [← hEN]
  refine w_zret d_PW_isSign_87 rfl (by first | exact Or.inl rfl | exact Or.inr rfl) ?_
  exact ⟨rfl, rfl⟩
theorem m_PW_isSign {h : wH} {c : Nat} (hc : c < 2 ^ 31) : PM X M_PW_isSign 0 0 0 [.int (nI c)] h (fun r h' => r = some (.int (bI (sgn c))) ∧ h' = h) := by
  by_cases hn : c = 38 ∨ c = 45 ∨ c = 58 ∨ c = 91 ∨ c = 92 ∨ c = 93 ∨ c = 94 ∨ c = 123 ∨ c = 125
  · rw [show sgn c = true from decide_eq_true hn]
    rcases hn with rfl | rfl | rfl | rfl | rfl | rfl | rfl | rfl | rfl
    · exact m_PW_isSign_38
    · exact m_PW_isSign_45
    · exact m_PW_isSign_58
    · exact m_PW_isSign_91
    · exact m_PW_isSign_92
    · exact m_PW_isSign_93
    · exact m_PW_isSign_94
    · exact m_PW_isSign_123
    · exact m_PW_isSign_125
  · rw [show sgn c = false from decide_eq_false hn]
    exact m_PW_isSign_n hc hn
set_option maxHeartbeats 4000000 in
set_option maxRecDepth 100000 in
theorem m_PW_writeHex {h : wH} {p c : Nat} {o : List Nat} (hw : hPW h p o) (hc : c < 2 ^ 24) : PM X M_PW_writeHex 2 0 0 [.ref p, .int (nI c)] h (fun r h' => r = none ∧ hPW h' p (o ++ ([92] ++ [120] ++ [123] ++ hx c ++ [125])) ∧ wOff h h' p 3) := by
  have hw0 := hw
  have kp := hw.1
  refine PM.at (pl := [some (.ref p), some (.int (nI c)), none, none]) rfl rfl (by simp [wle, wen]) ?_
  generalize hEN : wEm X 0 0 _ = EN
  refine w_aload_n d_PW_writeHex_0 rfl rfl ?_
  refine w_bipush (v := nI 92) d_PW_writeHex_1 (by decide) ?_
  refine w_callV (as := [.int (nI 92)]) (st := []) d_PW_writeHex_3 yM_PW_put l_PW_25 vM_PW_put kp rfl rfl rfl rfl (m_PW_put hw0) (by decide) (by decide) (by decide) (by decide) (Nat.le_of_ble_eq_true rfl) ?_
  rintro _ h1 ⟨rfl, w1, o1⟩
  refine w_eq (st' := []) rfl ?_
  have kp1 := w1.1
  refine w_aload_n d_PW_writeHex_6 rfl rfl ?_
  refine w_bipush (v := nI 120) d_PW_writeHex_7 (by decide) ?_
  refine w_callV (as := [.int (nI 120)]) (st := []) d_PW_writeHex_9 yM_PW_put l_PW_25 vM_PW_put kp1 rfl rfl rfl rfl (m_PW_put w1) (by decide) (by decide) (by decide) (by decide) (Nat.le_of_ble_eq_true rfl) ?_
  rintro _ h2 ⟨rfl, w2, o2⟩
  refine w_eq (st' := []) rfl ?_
  have kp2 := w2.1
  refine w_aload_n d_PW_writeHex_12 rfl rfl ?_
  refine w_bipush (v := nI 123) d_PW_writeHex_13 (by decide) ?_
  refine w_callV (as := [.int (nI 123)]) (st := []) d_PW_writeHex_15 yM_PW_put l_PW_25 vM_PW_put kp2 rfl rfl rfl rfl (m_PW_put w2) (by decide) (by decide) (by decide) (by decide) (Nat.le_of_ble_eq_true rfl) ?_
  rintro _ h3 ⟨rfl, w3, o3⟩
  refine w_eq (st' := []) rfl ?_
  have kp3 := w3.1
  refine w_bipush (v := nI 20) d_PW_writeHex_18 (by decide) ?_
  refine w_istore_n d_PW_writeHex_20 (by decide) ?_
  refine w_pl (pl' := [some (.ref p), some (.int (nI c)), some (.int (nI 20)), none]) rfl ?_
  refine w_iload_n d_PW_writeHex_21 rfl ?_
  refine w_if_lt (tgt := 72) d_PW_writeHex_22 rfl (fun z => absurd z (by decide)) (fun _ => ?_)
  refine w_iload_n d_PW_writeHex_25 rfl ?_
  refine w_iload_n d_PW_writeHex_26 rfl ?_
  refine w_ishr d_PW_writeHex_27 ?_
  refine w_topi (y := nI (c / 2 ^ 20)) (pk_shrN (by omega) _ 20 (by decide)) ?_
  refine w_if_ne (tgt := 35) d_PW_writeHex_28 rfl (fun c28 => ?_) (fun c28 => ?_)
  · have z20 : ¬ c / 2 ^ 20 = 0 := fun z => c28 (by rw [z]; decide)
    refine w_iload_n d_PW_writeHex_35 rfl ?_
    refine w_iload_n d_PW_writeHex_36 rfl ?_
    refine w_ishr d_PW_writeHex_37 ?_
    refine w_topi (y := nI (c / 2 ^ 20)) (pk_shrN (by omega) _ 20 (by decide)) ?_
    refine w_bipush (v := nI 15) d_PW_writeHex_38 (by decide) ?_
    refine w_iand d_PW_writeHex_40 ?_
    refine w_topi (y := nI (c / 2 ^ 20 % 16)) (pk_andN (m := nI 15) (by omega) 4 (by decide)) ?_
    refine w_istore_n d_PW_writeHex_41 (by decide) ?_
    refine w_pl (pl' := [some (.ref p), some (.int (nI c)), some (.int (nI 20)), some (.int (nI (c / 2 ^ 20 % 16)))]) rfl ?_
    refine w_aload_n d_PW_writeHex_42 rfl rfl ?_
    refine w_iload_n d_PW_writeHex_43 rfl ?_
    refine w_bipush (v := nI 10) d_PW_writeHex_44 (by decide) ?_
    suffices J63 : WP X M_PW_writeHex (wR 2 0 0) 0 EN 0 0 63 [some (.ref p), some (.int (nI c)), some (.int (nI 20)), some (.int (nI (c / 2 ^ 20 % 16)))] [.int (nI (dg (c / 2 ^ 20 % 16))), .ref p] h3 by
      refine w_icmp_ge (tgt := 56) d_PW_writeHex_46 rfl (fun c46 => ?_) (fun c46 => ?_)
      · have c46 := (nI_leI (a := 10) (b := c / 2 ^ 20 % 16) (by omega) (by omega)).mp c46
        refine w_bipush (v := nI 97) d_PW_writeHex_56 (by decide) ?_
        refine w_iload_n d_PW_writeHex_58 rfl ?_
        refine w_iadd d_PW_writeHex_59 ?_
        refine w_topi (y := nI (97 + c / 2 ^ 20 % 16)) (nI_add _ _) ?_
        refine w_bipush (v := nI 10) d_PW_writeHex_60 (by decide) ?_
        refine w_isub d_PW_writeHex_62 ?_
        refine w_topi (y := nI (97 + c / 2 ^ 20 % 16 - 10)) (pk_sub (by omega)) ?_
        rw [show dg (c / 2 ^ 20 % 16) = 97 + c / 2 ^ 20 % 16 - 10 from if_neg (by omega)] at J63; exact J63
      · have c46 : c / 2 ^ 20 % 16 < 10 := Nat.not_le.mp (fun z => c46 ((nI_leI (a := 10) (b := c / 2 ^ 20 % 16) (by omega) (by omega)).mpr z))
        refine w_bipush (v := nI 48) d_PW_writeHex_49 (by decide) ?_
        refine w_iload_n d_PW_writeHex_51 rfl ?_
        refine w_iadd d_PW_writeHex_52 ?_
        refine w_topi (y := nI (48 + c / 2 ^ 20 % 16)) (nI_add _ _) ?_
        refine w_goto (tgt := 63) d_PW_writeHex_53 rfl ?_
        rw [show dg (c / 2 ^ 20 % 16) = 48 + c / 2 ^ 20 % 16 from if_pos c46] at J63; exact J63
    refine w_callV (as := [.int (nI (dg (c / 2 ^ 20 % 16)))]) (st := []) d_PW_writeHex_63 yM_PW_put l_PW_25 vM_PW_put kp3 rfl rfl rfl rfl (m_PW_put w3) (by decide) (by decide) (by decide) (by decide) (Nat.le_of_ble_eq_true rfl) ?_
    rintro _ h4 ⟨rfl, w4, o4⟩
    refine w_eq (st' := []) rfl ?_
    have kp4 := w4.1
    refine w_iinc (v := nI 16) d_PW_writeHex_66 rfl (by decide) (by decide) ?_
    refine w_pl (pl' := [some (.ref p), some (.int (nI c)), some (.int (nI 16)), some (.int (nI (c / 2 ^ 20 % 16)))]) rfl ?_
    refine w_goto (tgt := 21) d_PW_writeHex_69 rfl ?_
    refine w_iload_n d_PW_writeHex_21 rfl ?_
    refine w_if_lt (tgt := 72) d_PW_writeHex_22 rfl (fun z => absurd z (by decide)) (fun _ => ?_)
    refine w_iload_n d_PW_writeHex_25 rfl ?_
    refine w_iload_n d_PW_writeHex_26 rfl ?_
    refine w_ishr d_PW_writeHex_27 ?_
    refine w_topi (y := nI (c / 2 ^ 16)) (pk_shrN (by omega) _ 16 (by decide)) ?_
    refine w_if_ne (tgt := 35) d_PW_writeHex_28 rfl (fun _ => ?_) (fun z => absurd z (nI_ne0 (by omega) (by omega)))
    refine w_iload_n d_PW_writeHex_35 rfl ?_
    refine w_iload_n d_PW_writeHex_36 rfl ?_
    refine w_ishr d_PW_writeHex_37 ?_
    refine w_topi (y := nI (c / 2 ^ 16)) (pk_shrN (by omega) _ 16 (by decide)) ?_
    refine w_bipush (v := nI 15) d_PW_writeHex_38 (by decide) ?_
    refine w_iand d_PW_writeHex_40 ?_
    refine w_topi (y := nI (c / 2 ^ 16 % 16)) (pk_andN (m := nI 15) (by omega) 4 (by decide)) ?_
    refine w_istore_n d_PW_writeHex_41 (by decide) ?_
    refine w_pl (pl' := [some (.ref p), some (.int (nI c)), some (.int (nI 16)), some (.int (nI (c / 2 ^ 16 % 16)))]) rfl ?_
    refine w_aload_n d_PW_writeHex_42 rfl rfl ?_
    refine w_iload_n d_PW_writeHex_43 rfl ?_
    refine w_bipush (v := nI 10) d_PW_writeHex_44 (by decide) ?_
    suffices J63 : WP X M_PW_writeHex (wR 2 0 0) 0 EN 0 0 63 [some (.ref p), some (.int (nI c)), some (.int (nI 16)), some (.int (nI (c / 2 ^ 16 % 16)))] [.int (nI (dg (c / 2 ^ 16 % 16))), .ref p] h4 by
      refine w_icmp_ge (tgt := 56) d_PW_writeHex_46 rfl (fun c46 => ?_) (fun c46 => ?_)
      · have c46 := (nI_leI (a := 10) (b := c / 2 ^ 16 % 16) (by omega) (by omega)).mp c46
        refine w_bipush (v := nI 97) d_PW_writeHex_56 (by decide) ?_
        refine w_iload_n d_PW_writeHex_58 rfl ?_
        refine w_iadd d_PW_writeHex_59 ?_
        refine w_topi (y := nI (97 + c / 2 ^ 16 % 16)) (nI_add _ _) ?_
        refine w_bipush (v := nI 10) d_PW_writeHex_60 (by decide) ?_
        refine w_isub d_PW_writeHex_62 ?_
        refine w_topi (y := nI (97 + c / 2 ^ 16 % 16 - 10)) (pk_sub (by omega)) ?_
        rw [show dg (c / 2 ^ 16 % 16) = 97 + c / 2 ^ 16 % 16 - 10 from if_neg (by omega)] at J63; exact J63
      · have c46 : c / 2 ^ 16 % 16 < 10 := Nat.not_le.mp (fun z => c46 ((nI_leI (a := 10) (b := c / 2 ^ 16 % 16) (by omega) (by omega)).mpr z))
        refine w_bipush (v := nI 48) d_PW_writeHex_49 (by decide) ?_
        refine w_iload_n d_PW_writeHex_51 rfl ?_
        refine w_iadd d_PW_writeHex_52 ?_
        refine w_topi (y := nI (48 + c / 2 ^ 16 % 16)) (nI_add _ _) ?_
        refine w_goto (tgt := 63) d_PW_writeHex_53 rfl ?_
        rw [show dg (c / 2 ^ 16 % 16) = 48 + c / 2 ^ 16 % 16 from if_pos c46] at J63; exact J63
    refine w_callV (as := [.int (nI (dg (c / 2 ^ 16 % 16)))]) (st := []) d_PW_writeHex_63 yM_PW_put l_PW_25 vM_PW_put kp4 rfl rfl rfl rfl (m_PW_put w4) (by decide) (by decide) (by decide) (by decide) (Nat.le_of_ble_eq_true rfl) ?_
    rintro _ h5 ⟨rfl, w5, o5⟩
    refine w_eq (st' := []) rfl ?_
    have kp5 := w5.1
    refine w_iinc (v := nI 12) d_PW_writeHex_66 rfl (by decide) (by decide) ?_
    refine w_pl (pl' := [some (.ref p), some (.int (nI c)), some (.int (nI 12)), some (.int (nI (c / 2 ^ 16 % 16)))]) rfl ?_
    refine w_goto (tgt := 21) d_PW_writeHex_69 rfl ?_
    refine w_iload_n d_PW_writeHex_21 rfl ?_
    refine w_if_lt (tgt := 72) d_PW_writeHex_22 rfl (fun z => absurd z (by decide)) (fun _ => ?_)
    refine w_iload_n d_PW_writeHex_25 rfl ?_
    refine w_iload_n d_PW_writeHex_26 rfl ?_
    refine w_ishr d_PW_writeHex_27 ?_
    refine w_topi (y := nI (c / 2 ^ 12)) (pk_shrN (by omega) _ 12 (by decide)) ?_
    refine w_if_ne (tgt := 35) d_PW_writeHex_28 rfl (fun _ => ?_) (fun z => absurd z (nI_ne0 (by omega) (by omega)))
    refine w_iload_n d_PW_writeHex_35 rfl ?_
    refine w_iload_n d_PW_writeHex_36 rfl ?_
    refine w_ishr d_PW_writeHex_37 ?_
    refine w_topi (y := nI (c / 2 ^ 12)) (pk_shrN (by omega) _ 12 (by decide)) ?_
    refine w_bipush (v := nI 15) d_PW_writeHex_38 (by decide) ?_
    refine w_iand d_PW_writeHex_40 ?_
    refine w_topi (y := nI (c / 2 ^ 12 % 16)) (pk_andN (m := nI 15) (by omega) 4 (by decide)) ?_
    refine w_istore_n d_PW_writeHex_41 (by decide) ?_
    refine w_pl (pl' := [some (.ref p), some (.int (nI c)), some (.int (nI 12)), some (.int (nI (c / 2 ^ 12 % 16)))]) rfl ?_
    refine w_aload_n d_PW_writeHex_42 rfl rfl ?_
    refine w_iload_n d_PW_writeHex_43 rfl ?_
    refine w_bipush (v := nI 10) d_PW_writeHex_44 (by decide) ?_
    suffices J63 : WP X M_PW_writeHex (wR 2 0 0) 0 EN 0 0 63 [some (.ref p), some (.int (nI c)), some (.int (nI 12)), some (.int (nI (c / 2 ^ 12 % 16)))] [.int (nI (dg (c / 2 ^ 12 % 16))), .ref p] h5 by
      refine w_icmp_ge (tgt := 56) d_PW_writeHex_46 rfl (fun c46 => ?_) (fun c46 => ?_)
      · have c46 := (nI_leI (a := 10) (b := c / 2 ^ 12 % 16) (by omega) (by omega)).mp c46
        refine w_bipush (v := nI 97) d_PW_writeHex_56 (by decide) ?_
        refine w_iload_n d_PW_writeHex_58 rfl ?_
        refine w_iadd d_PW_writeHex_59 ?_
        refine w_topi (y := nI (97 + c / 2 ^ 12 % 16)) (nI_add _ _) ?_
        refine w_bipush (v := nI 10) d_PW_writeHex_60 (by decide) ?_
        refine w_isub d_PW_writeHex_62 ?_
        refine w_topi (y := nI (97 + c / 2 ^ 12 % 16 - 10)) (pk_sub (by omega)) ?_
        rw [show dg (c / 2 ^ 12 % 16) = 97 + c / 2 ^ 12 % 16 - 10 from if_neg (by omega)] at J63; exact J63
      · have c46 : c / 2 ^ 12 % 16 < 10 := Nat.not_le.mp (fun z => c46 ((nI_leI (a := 10) (b := c / 2 ^ 12 % 16) (by omega) (by omega)).mpr z))
        refine w_bipush (v := nI 48) d_PW_writeHex_49 (by decide) ?_
        refine w_iload_n d_PW_writeHex_51 rfl ?_
        refine w_iadd d_PW_writeHex_52 ?_
        refine w_topi (y := nI (48 + c / 2 ^ 12 % 16)) (nI_add _ _) ?_
        refine w_goto (tgt := 63) d_PW_writeHex_53 rfl ?_
        rw [show dg (c / 2 ^ 12 % 16) = 48 + c / 2 ^ 12 % 16 from if_pos c46] at J63; exact J63
    refine w_callV (as := [.int (nI (dg (c / 2 ^ 12 % 16)))]) (st := []) d_PW_writeHex_63 yM_PW_put l_PW_25 vM_PW_put kp5 rfl rfl rfl rfl (m_PW_put w5) (by decide) (by decide) (by decide) (by decide) (Nat.le_of_ble_eq_true rfl) ?_
    rintro _ h6 ⟨rfl, w6, o6⟩
    refine w_eq (st' := []) rfl ?_
    have kp6 := w6.1
    refine w_iinc (v := nI 8) d_PW_writeHex_66 rfl (by decide) (by decide) ?_
    refine w_pl (pl' := [some (.ref p), some (.int (nI c)), some (.int (nI 8)), some (.int (nI (c / 2 ^ 12 % 16)))]) rfl ?_
    refine w_goto (tgt := 21) d_PW_writeHex_69 rfl ?_
    refine w_iload_n d_PW_writeHex_21 rfl ?_
    refine w_if_lt (tgt := 72) d_PW_writeHex_22 rfl (fun z => absurd z (by decide)) (fun _ => ?_)
    refine w_iload_n d_PW_writeHex_25 rfl ?_
    refine w_iload_n d_PW_writeHex_26 rfl ?_
    refine w_ishr d_PW_writeHex_27 ?_
    refine w_topi (y := nI (c / 2 ^ 8)) (pk_shrN (by omega) _ 8 (by decide)) ?_
    refine w_if_ne (tgt := 35) d_PW_writeHex_28 rfl (fun _ => ?_) (fun z => absurd z (nI_ne0 (by omega) (by omega)))
    refine w_iload_n d_PW_writeHex_35 rfl ?_
    refine w_iload_n d_PW_writeHex_36 rfl ?_
    refine w_ishr d_PW_writeHex_37 ?_
    refine w_topi (y := nI (c / 2 ^ 8)) (pk_shrN (by omega) _ 8 (by decide)) ?_
    refine w_bipush (v := nI 15) d_PW_writeHex_38 (by decide) ?_
    refine w_iand d_PW_writeHex_40 ?_
    refine w_topi (y := nI (c / 2 ^ 8 % 16)) (pk_andN (m := nI 15) (by omega) 4 (by decide)) ?_
    refine w_istore_n d_PW_writeHex_41 (by decide) ?_
    refine w_pl (pl' := [some (.ref p), some (.int (nI c)), some (.int (nI 8)), some (.int (nI (c / 2 ^ 8 % 16)))]) rfl ?_
    refine w_aload_n d_PW_writeHex_42 rfl rfl ?_
    refine w_iload_n d_PW_writeHex_43 rfl ?_
    refine w_bipush (v := nI 10) d_PW_writeHex_44 (by decide) ?_
    suffices J63 : WP X M_PW_writeHex (wR 2 0 0) 0 EN 0 0 63 [some (.ref p), some (.int (nI c)), some (.int (nI 8)), some (.int (nI (c / 2 ^ 8 % 16)))] [.int (nI (dg (c / 2 ^ 8 % 16))), .ref p] h6 by
      refine w_icmp_ge (tgt := 56) d_PW_writeHex_46 rfl (fun c46 => ?_) (fun c46 => ?_)
      · have c46 := (nI_leI (a := 10) (b := c / 2 ^ 8 % 16) (by omega) (by omega)).mp c46
        refine w_bipush (v := nI 97) d_PW_writeHex_56 (by decide) ?_
        refine w_iload_n d_PW_writeHex_58 rfl ?_
        refine w_iadd d_PW_writeHex_59 ?_
        refine w_topi (y := nI (97 + c / 2 ^ 8 % 16)) (nI_add _ _) ?_
        refine w_bipush (v := nI 10) d_PW_writeHex_60 (by decide) ?_
        refine w_isub d_PW_writeHex_62 ?_
        refine w_topi (y := nI (97 + c / 2 ^ 8 % 16 - 10)) (pk_sub (by omega)) ?_
        rw [show dg (c / 2 ^ 8 % 16) = 97 + c / 2 ^ 8 % 16 - 10 from if_neg (by omega)] at J63; exact J63
      · have c46 : c / 2 ^ 8 % 16 < 10 := Nat.not_le.mp (fun z => c46 ((nI_leI (a := 10) (b := c / 2 ^ 8 % 16) (by omega) (by omega)).mpr z))
        refine w_bipush (v := nI 48) d_PW_writeHex_49 (by decide) ?_
        refine w_iload_n d_PW_writeHex_51 rfl ?_
        refine w_iadd d_PW_writeHex_52 ?_
        refine w_topi (y := nI (48 + c / 2 ^ 8 % 16)) (nI_add _ _) ?_
        refine w_goto (tgt := 63) d_PW_writeHex_53 rfl ?_
        rw [show dg (c / 2 ^ 8 % 16) = 48 + c / 2 ^ 8 % 16 from if_pos c46] at J63; exact J63
    refine w_callV (as := [.int (nI (dg (c / 2 ^ 8 % 16)))]) (st := []) d_PW_writeHex_63 yM_PW_put l_PW_25 vM_PW_put kp6 rfl rfl rfl rfl (m_PW_put w6) (by decide) (by decide) (by decide) (by decide) (Nat.le_of_ble_eq_true rfl) ?_
    rintro _ h7 ⟨rfl, w7, o7⟩
    refine w_eq (st' := []) rfl ?_
    have kp7 := w7.1
    refine w_iinc (v := nI 4) d_PW_writeHex_66 rfl (by decide) (by decide) ?_
    refine w_pl (pl' := [some (.ref p), some (.int (nI c)), some (.int (nI 4)), some (.int (nI (c / 2 ^ 8 % 16)))]) rfl ?_
    refine w_goto (tgt := 21) d_PW_writeHex_69 rfl ?_
    refine w_iload_n d_PW_writeHex_21 rfl ?_
    refine w_if_lt (tgt := 72) d_PW_writeHex_22 rfl (fun z => absurd z (by decide)) (fun _ => ?_)
    refine w_iload_n d_PW_writeHex_25 rfl ?_
    refine w_iload_n d_PW_writeHex_26 rfl ?_
    refine w_ishr d_PW_writeHex_27 ?_
    refine w_topi (y := nI (c / 2 ^ 4)) (pk_shrN (by omega) _ 4 (by decide)) ?_
    refine w_if_ne (tgt := 35) d_PW_writeHex_28 rfl (fun _ => ?_) (fun z => absurd z (nI_ne0 (by omega) (by omega)))
    refine w_iload_n d_PW_writeHex_35 rfl ?_
    refine w_iload_n d_PW_writeHex_36 rfl ?_
    refine w_ishr d_PW_writeHex_37 ?_
    refine w_topi (y := nI (c / 2 ^ 4)) (pk_shrN (by omega) _ 4 (by decide)) ?_
    refine w_bipush (v := nI 15) d_PW_writeHex_38 (by decide) ?_
    refine w_iand d_PW_writeHex_40 ?_
    refine w_topi (y := nI (c / 2 ^ 4 % 16)) (pk_andN (m := nI 15) (by omega) 4 (by decide)) ?_
    refine w_istore_n d_PW_writeHex_41 (by decide) ?_
    refine w_pl (pl' := [some (.ref p), some (.int (nI c)), some (.int (nI 4)), some (.int (nI (c / 2 ^ 4 % 16)))]) rfl ?_
    refine w_aload_n d_PW_writeHex_42 rfl rfl ?_
    refine w_iload_n d_PW_writeHex_43 rfl ?_
    refine w_bipush (v := nI 10) d_PW_writeHex_44 (by decide) ?_
    suffices J63 : WP X M_PW_writeHex (wR 2 0 0) 0 EN 0 0 63 [some (.ref p), some (.int (nI c)), some (.int (nI 4)), some (.int (nI (c / 2 ^ 4 % 16)))] [.int (nI (dg (c / 2 ^ 4 % 16))), .ref p] h7 by
      refine w_icmp_ge (tgt := 56) d_PW_writeHex_46 rfl (fun c46 => ?_) (fun c46 => ?_)
      · have c46 := (nI_leI (a := 10) (b := c / 2 ^ 4 % 16) (by omega) (by omega)).mp c46
        refine w_bipush (v := nI 97) d_PW_writeHex_56 (by decide) ?_
        refine w_iload_n d_PW_writeHex_58 rfl ?_
        refine w_iadd d_PW_writeHex_59 ?_
        refine w_topi (y := nI (97 + c / 2 ^ 4 % 16)) (nI_add _ _) ?_
        refine w_bipush (v := nI 10) d_PW_writeHex_60 (by decide) ?_
        refine w_isub d_PW_writeHex_62 ?_
        refine w_topi (y := nI (97 + c / 2 ^ 4 % 16 - 10)) (pk_sub (by omega)) ?_
        rw [show dg (c / 2 ^ 4 % 16) = 97 + c / 2 ^ 4 % 16 - 10 from if_neg (by omega)] at J63; exact J63
      · have c46 : c / 2 ^ 4 % 16 < 10 := Nat.not_le.mp (fun z => c46 ((nI_leI (a := 10) (b := c / 2 ^ 4 % 16) (by omega) (by omega)).mpr z))
        refine w_bipush (v := nI 48) d_PW_writeHex_49 (by decide) ?_
        refine w_iload_n d_PW_writeHex_51 rfl ?_
        refine w_iadd d_PW_writeHex_52 ?_
        refine w_topi (y := nI (48 + c / 2 ^ 4 % 16)) (nI_add _ _) ?_
        refine w_goto (tgt := 63) d_PW_writeHex_53 rfl ?_
        rw [show dg (c / 2 ^ 4 % 16) = 48 + c / 2 ^ 4 % 16 from if_pos c46] at J63; exact J63
    refine w_callV (as := [.int (nI (dg (c / 2 ^ 4 % 16)))]) (st := []) d_PW_writeHex_63 yM_PW_put l_PW_25 vM_PW_put kp7 rfl rfl rfl rfl (m_PW_put w7) (by decide) (by decide) (by decide) (by decide) (Nat.le_of_ble_eq_true rfl) ?_
    rintro _ h8 ⟨rfl, w8, o8⟩
    refine w_eq (st' := []) rfl ?_
    have kp8 := w8.1
    refine w_iinc (v := nI 0) d_PW_writeHex_66 rfl (by decide) (by decide) ?_
    refine w_pl (pl' := [some (.ref p), some (.int (nI c)), some (.int (nI 0)), some (.int (nI (c / 2 ^ 4 % 16)))]) rfl ?_
    refine w_goto (tgt := 21) d_PW_writeHex_69 rfl ?_
    refine w_iload_n d_PW_writeHex_21 rfl ?_
    refine w_if_lt (tgt := 72) d_PW_writeHex_22 rfl (fun z => absurd z (by decide)) (fun _ => ?_)
    refine w_iload_n d_PW_writeHex_25 rfl ?_
    refine w_iload_n d_PW_writeHex_26 rfl ?_
    refine w_ishr d_PW_writeHex_27 ?_
    refine w_topi (y := nI (c / 2 ^ 0)) (pk_shrN (by omega) _ 0 (by decide)) ?_
    refine w_if_ne (tgt := 35) d_PW_writeHex_28 rfl (fun _ => ?_) (fun z => absurd z (nI_ne0 (by omega) (by omega)))
    refine w_iload_n d_PW_writeHex_35 rfl ?_
    refine w_iload_n d_PW_writeHex_36 rfl ?_
    refine w_ishr d_PW_writeHex_37 ?_
    refine w_topi (y := nI (c / 2 ^ 0)) (pk_shrN (by omega) _ 0 (by decide)) ?_
    refine w_bipush (v := nI 15) d_PW_writeHex_38 (by decide) ?_
    refine w_iand d_PW_writeHex_40 ?_
    refine w_topi (y := nI (c / 2 ^ 0 % 16)) (pk_andN (m := nI 15) (by omega) 4 (by decide)) ?_
    refine w_istore_n d_PW_writeHex_41 (by decide) ?_
    refine w_pl (pl' := [some (.ref p), some (.int (nI c)), some (.int (nI 0)), some (.int (nI (c / 2 ^ 0 % 16)))]) rfl ?_
    refine w_aload_n d_PW_writeHex_42 rfl rfl ?_
    refine w_iload_n d_PW_writeHex_43 rfl ?_
    refine w_bipush (v := nI 10) d_PW_writeHex_44 (by decide) ?_
    suffices J63 : WP X M_PW_writeHex (wR 2 0 0) 0 EN 0 0 63 [some (.ref p), some (.int (nI c)), some (.int (nI 0)), some (.int (nI (c / 2 ^ 0 % 16)))] [.int (nI (dg (c / 2 ^ 0 % 16))), .ref p] h8 by
      refine w_icmp_ge (tgt := 56) d_PW_writeHex_46 rfl (fun c46 => ?_) (fun c46 => ?_)
      · have c46 := (nI_leI (a := 10) (b := c / 2 ^ 0 % 16) (by omega) (by omega)).mp c46
        refine w_bipush (v := nI 97) d_PW_writeHex_56 (by decide) ?_
        refine w_iload_n d_PW_writeHex_58 rfl ?_
        refine w_iadd d_PW_writeHex_59 ?_
        refine w_topi (y := nI (97 + c / 2 ^ 0 % 16)) (nI_add _ _) ?_
        refine w_bipush (v := nI 10) d_PW_writeHex_60 (by decide) ?_
        refine w_isub d_PW_writeHex_62 ?_
        refine w_topi (y := nI (97 + c / 2 ^ 0 % 16 - 10)) (pk_sub (by omega)) ?_
        rw [show dg (c / 2 ^ 0 % 16) = 97 + c / 2 ^ 0 % 16 - 10 from if_neg (by omega)] at J63; exact J63
      · have c46 : c / 2 ^ 0 % 16 < 10 := Nat.not_le.mp (fun z => c46 ((nI_leI (a := 10) (b := c / 2 ^ 0 % 16) (by omega) (by omega)).mpr z))
        refine w_bipush (v := nI 48) d_PW_writeHex_49 (by decide) ?_
        refine w_iload_n d_PW_writeHex_51 rfl ?_
        refine w_iadd d_PW_writeHex_52 ?_
        refine w_topi (y := nI (48 + c / 2 ^ 0 % 16)) (nI_add _ _) ?_
        refine w_goto (tgt := 63) d_PW_writeHex_53 rfl ?_
        rw [show dg (c / 2 ^ 0 % 16) = 48 + c / 2 ^ 0 % 16 from if_pos c46] at J63; exact J63
    refine w_callV (as := [.int (nI (dg (c / 2 ^ 0 % 16)))]) (st := []) d_PW_writeHex_63 yM_PW_put l_PW_25 vM_PW_put kp8 rfl rfl rfl rfl (m_PW_put w8) (by decide) (by decide) (by decide) (by decide) (Nat.le_of_ble_eq_true rfl) ?_
    rintro _ h9 ⟨rfl, w9, o9⟩
    refine w_eq (st' := []) rfl ?_
    have kp9 := w9.1
    refine w_iinc (v := (-4)) d_PW_writeHex_66 rfl (by decide) (by decide) ?_
    refine w_pl (pl' := [some (.ref p), some (.int (nI c)), some (.int ((-4))), some (.int (nI (c / 2 ^ 0 % 16)))]) rfl ?_
    refine w_goto (tgt := 21) d_PW_writeHex_69 rfl ?_
    refine w_iload_n d_PW_writeHex_21 rfl ?_
    refine w_if_lt (tgt := 72) d_PW_writeHex_22 rfl (fun _ => ?_) (fun z => absurd (by decide) z)
    refine w_aload_n d_PW_writeHex_72 rfl rfl ?_
    refine w_bipush (v := nI 125) d_PW_writeHex_73 (by decide) ?_
    refine w_callV (as := [.int (nI 125)]) (st := []) d_PW_writeHex_75 yM_PW_put l_PW_25 vM_PW_put kp9 rfl rfl rfl rfl (m_PW_put w9) (by decide) (by decide) (by decide) (by decide) (Nat.le_of_ble_eq_true rfl) ?_
    rintro _ h10 ⟨rfl, w10, o10⟩
    refine w_eq (st' := []) rfl ?_
    have kp10 := w10.1
    rw [← hEN]
    refine w_vret d_PW_writeHex_78 rfl ?_
    have hxe : hx c = [dg (c / 2 ^ 20 % 16), dg (c / 2 ^ 16 % 16), dg (c / 2 ^ 12 % 16), dg (c / 2 ^ 8 % 16), dg (c / 2 ^ 4 % 16), dg (c / 2 ^ 0 % 16)] := by unfold hx; rw [if_pos z20]
    refine ⟨rfl, ?_, (((((((((o1.tr o2).tr o3).tr o4).tr o5).tr o6).tr o7).tr o8).tr o9).tr o10)⟩
    rw [hxe]
    have q := w10
    simp only [List.append_assoc, List.cons_append, List.nil_append] at q ⊢
    exact q
  · have z20 : c / 2 ^ 20 = 0 := by
      rcases Nat.eq_zero_or_pos (c / 2 ^ 20) with z | z
      · exact z
      · exact absurd c28 (nI_ne0 z (by omega))
    refine w_iload_n d_PW_writeHex_31 rfl ?_
    refine w_if_ne (tgt := 66) d_PW_writeHex_32 rfl (fun _ => ?_) (fun z => absurd z (by decide))
    refine w_iinc (v := nI 16) d_PW_writeHex_66 rfl (by decide) (by decide) ?_
    refine w_pl (pl' := [some (.ref p), some (.int (nI c)), some (.int (nI 16)), none]) rfl ?_
    refine w_goto (tgt := 21) d_PW_writeHex_69 rfl ?_
    refine w_iload_n d_PW_writeHex_21 rfl ?_
    refine w_if_lt (tgt := 72) d_PW_writeHex_22 rfl (fun z => absurd z (by decide)) (fun _ => ?_)
    refine w_iload_n d_PW_writeHex_25 rfl ?_
    refine w_iload_n d_PW_writeHex_26 rfl ?_
    refine w_ishr d_PW_writeHex_27 ?_
    refine w_topi (y := nI (c / 2 ^ 16)) (pk_shrN (by omega) _ 16 (by decide)) ?_
    refine w_if_ne (tgt := 35) d_PW_writeHex_28 rfl (fun c28 => ?_) (fun c28 => ?_)
    · have z16 : ¬ c / 2 ^ 16 = 0 := fun z => c28 (by rw [z]; decide)
      refine w_iload_n d_PW_writeHex_35 rfl ?_
      refine w_iload_n d_PW_writeHex_36 rfl ?_
      refine w_ishr d_PW_writeHex_37 ?_
      refine w_topi (y := nI (c / 2 ^ 16)) (pk_shrN (by omega) _ 16 (by decide)) ?_
      refine w_bipush (v := nI 15) d_PW_writeHex_38 (by decide) ?_
      refine w_iand d_PW_writeHex_40 ?_
      refine w_topi (y := nI (c / 2 ^ 16 % 16)) (pk_andN (m := nI 15) (by omega) 4 (by decide)) ?_
      refine w_istore_n d_PW_writeHex_41 (by decide) ?_
      refine w_pl (pl' := [some (.ref p), some (.int (nI c)), some (.int (nI 16)), some (.int (nI (c / 2 ^ 16 % 16)))]) rfl ?_
      refine w_aload_n d_PW_writeHex_42 rfl rfl ?_
      refine w_iload_n d_PW_writeHex_43 rfl ?_
      refine w_bipush (v := nI 10) d_PW_writeHex_44 (by decide) ?_
      suffices J63 : WP X M_PW_writeHex (wR 2 0 0) 0 EN 0 0 63 [some (.ref p), some (.int (nI c)), some (.int (nI 16)), some (.int (nI (c / 2 ^ 16 % 16)))] [.int (nI (dg (c / 2 ^ 16 % 16))), .ref p] h3 by
        refine w_icmp_ge (tgt := 56) d_PW_writeHex_46 rfl (fun c46 => ?_) (fun c46 => ?_)
        · have c46 := (nI_leI (a := 10) (b := c / 2 ^ 16 % 16) (by omega) (by omega)).mp c46
          refine w_bipush (v := nI 97) d_PW_writeHex_56 (by decide) ?_
          refine w_iload_n d_PW_writeHex_58 rfl ?_
          refine w_iadd d_PW_writeHex_59 ?_
          refine w_topi (y := nI (97 + c / 2 ^ 16 % 16)) (nI_add _ _) ?_
          refine w_bipush (v := nI 10) d_PW_writeHex_60 (by decide) ?_
          refine w_isub d_PW_writeHex_62 ?_
          refine w_topi (y := nI (97 + c / 2 ^ 16 % 16 - 10)) (pk_sub (by omega)) ?_
          rw [show dg (c / 2 ^ 16 % 16) = 97 + c / 2 ^ 16 % 16 - 10 from if_neg (by omega)] at J63; exact J63
        · have c46 : c / 2 ^ 16 % 16 < 10 := Nat.not_le.mp (fun z => c46 ((nI_leI (a := 10) (b := c / 2 ^ 16 % 16) (by omega) (by omega)).mpr z))
          refine w_bipush (v := nI 48) d_PW_writeHex_49 (by decide) ?_
          refine w_iload_n d_PW_writeHex_51 rfl ?_
          refine w_iadd d_PW_writeHex_52 ?_
          refine w_topi (y := nI (48 + c / 2 ^ 16 % 16)) (nI_add _ _) ?_
          refine w_goto (tgt := 63) d_PW_writeHex_53 rfl ?_
          rw [show dg (c / 2 ^ 16 % 16) = 48 + c / 2 ^ 16 % 16 from if_pos c46] at J63; exact J63
      refine w_callV (as := [.int (nI (dg (c / 2 ^ 16 % 16)))]) (st := []) d_PW_writeHex_63 yM_PW_put l_PW_25 vM_PW_put kp3 rfl rfl rfl rfl (m_PW_put w3) (by decide) (by decide) (by decide) (by decide) (Nat.le_of_ble_eq_true rfl) ?_
      rintro _ h4 ⟨rfl, w4, o4⟩
      refine w_eq (st' := []) rfl ?_
      have kp4 := w4.1
      refine w_iinc (v := nI 12) d_PW_writeHex_66 rfl (by decide) (by decide) ?_
      refine w_pl (pl' := [some (.ref p), some (.int (nI c)), some (.int (nI 12)), some (.int (nI (c / 2 ^ 16 % 16)))]) rfl ?_
      refine w_goto (tgt := 21) d_PW_writeHex_69 rfl ?_
      refine w_iload_n d_PW_writeHex_21 rfl ?_
      refine w_if_lt (tgt := 72) d_PW_writeHex_22 rfl (fun z => absurd z (by decide)) (fun _ => ?_)
      refine w_iload_n d_PW_writeHex_25 rfl ?_
      refine w_iload_n d_PW_writeHex_26 rfl ?_
      refine w_ishr d_PW_writeHex_27 ?_
      refine w_topi (y := nI (c / 2 ^ 12)) (pk_shrN (by omega) _ 12 (by decide)) ?_
      refine w_if_ne (tgt := 35) d_PW_writeHex_28 rfl (fun _ => ?_) (fun z => absurd z (nI_ne0 (by omega) (by omega)))
      refine w_iload_n d_PW_writeHex_35 rfl ?_
      refine w_iload_n d_PW_writeHex_36 rfl ?_
      refine w_ishr d_PW_writeHex_37 ?_
      refine w_topi (y := nI (c / 2 ^ 12)) (pk_shrN (by omega) _ 12 (by decide)) ?_
      refine w_bipush (v := nI 15) d_PW_writeHex_38 (by decide) ?_
      refine w_iand d_PW_writeHex_40 ?_
      refine w_topi (y := nI (c / 2 ^ 12 % 16)) (pk_andN (m := nI 15) (by omega) 4 (by decide)) ?_
      refine w_istore_n d_PW_writeHex_41 (by decide) ?_
      refine w_pl (pl' := [some (.ref p), some (.int (nI c)), some (.int (nI 12)), some (.int (nI (c / 2 ^ 12 % 16)))]) rfl ?_
      refine w_aload_n d_PW_writeHex_42 rfl rfl ?_
      refine w_iload_n d_PW_writeHex_43 rfl ?_
      refine w_bipush (v := nI 10) d_PW_writeHex_44 (by decide) ?_
      suffices J63 : WP X M_PW_writeHex (wR 2 0 0) 0 EN 0 0 63 [some (.ref p), some (.int (nI c)), some (.int (nI 12)), some (.int (nI (c / 2 ^ 12 % 16)))] [.int (nI (dg (c / 2 ^ 12 % 16))), .ref p] h4 by
        refine w_icmp_ge (tgt := 56) d_PW_writeHex_46 rfl (fun c46 => ?_) (fun c46 => ?_)
        · have c46 := (nI_leI (a := 10) (b := c / 2 ^ 12 % 16) (by omega) (by omega)).mp c46
          refine w_bipush (v := nI 97) d_PW_writeHex_56 (by decide) ?_
          refine w_iload_n d_PW_writeHex_58 rfl ?_
          refine w_iadd d_PW_writeHex_59 ?_
          refine w_topi (y := nI (97 + c / 2 ^ 12 % 16)) (nI_add _ _) ?_
          refine w_bipush (v := nI 10) d_PW_writeHex_60 (by decide) ?_
          refine w_isub d_PW_writeHex_62 ?_
          refine w_topi (y := nI (97 + c / 2 ^ 12 % 16 - 10)) (pk_sub (by omega)) ?_
          rw [show dg (c / 2 ^ 12 % 16) = 97 + c / 2 ^ 12 % 16 - 10 from if_neg (by omega)] at J63; exact J63
        · have c46 : c / 2 ^ 12 % 16 < 10 := Nat.not_le.mp (fun z => c46 ((nI_leI (a := 10) (b := c / 2 ^ 12 % 16) (by omega) (by omega)).mpr z))
          refine w_bipush (v := nI 48) d_PW_writeHex_49 (by decide) ?_
          refine w_iload_n d_PW_writeHex_51 rfl ?_
          refine w_iadd d_PW_writeHex_52 ?_
          refine w_topi (y := nI (48 + c / 2 ^ 12 % 16)) (nI_add _ _) ?_
          refine w_goto (tgt := 63) d_PW_writeHex_53 rfl ?_
          rw [show dg (c / 2 ^ 12 % 16) = 48 + c / 2 ^ 12 % 16 from if_pos c46] at J63; exact J63
      refine w_callV (as := [.int (nI (dg (c / 2 ^ 12 % 16)))]) (st := []) d_PW_writeHex_63 yM_PW_put l_PW_25 vM_PW_put kp4 rfl rfl rfl rfl (m_PW_put w4) (by decide) (by decide) (by decide) (by decide) (Nat.le_of_ble_eq_true rfl) ?_
      rintro _ h5 ⟨rfl, w5, o5⟩
      refine w_eq (st' := []) rfl ?_
      have kp5 := w5.1
      refine w_iinc (v := nI 8) d_PW_writeHex_66 rfl (by decide) (by decide) ?_
      refine w_pl (pl' := [some (.ref p), some (.int (nI c)), some (.int (nI 8)), some (.int (nI (c / 2 ^ 12 % 16)))]) rfl ?_
      refine w_goto (tgt := 21) d_PW_writeHex_69 rfl ?_
      refine w_iload_n d_PW_writeHex_21 rfl ?_
      refine w_if_lt (tgt := 72) d_PW_writeHex_22 rfl (fun z => absurd z (by decide)) (fun _ => ?_)
      refine w_iload_n d_PW_writeHex_25 rfl ?_
      refine w_iload_n d_PW_writeHex_26 rfl ?_
      refine w_ishr d_PW_writeHex_27 ?_
      refine w_topi (y := nI (c / 2 ^ 8)) (pk_shrN (by omega) _ 8 (by decide)) ?_
      refine w_if_ne (tgt := 35) d_PW_writeHex_28 rfl (fun _ => ?_) (fun z => absurd z (nI_ne0 (by omega) (by omega)))
      refine w_iload_n d_PW_writeHex_35 rfl ?_
      refine w_iload_n d_PW_writeHex_36 rfl ?_
      refine w_ishr d_PW_writeHex_37 ?_
      refine w_topi (y := nI (c / 2 ^ 8)) (pk_shrN (by omega) _ 8 (by decide)) ?_
      refine w_bipush (v := nI 15) d_PW_writeHex_38 (by decide) ?_
      refine w_iand d_PW_writeHex_40 ?_
      refine w_topi (y := nI (c / 2 ^ 8 % 16)) (pk_andN (m := nI 15) (by omega) 4 (by decide)) ?_
      refine w_istore_n d_PW_writeHex_41 (by decide) ?_
      refine w_pl (pl' := [some (.ref p), some (.int (nI c)), some (.int (nI 8)), some (.int (nI (c / 2 ^ 8 % 16)))]) rfl ?_
      refine w_aload_n d_PW_writeHex_42 rfl rfl ?_
      refine w_iload_n d_PW_writeHex_43 rfl ?_
      refine w_bipush (v := nI 10) d_PW_writeHex_44 (by decide) ?_
      suffices J63 : WP X M_PW_writeHex (wR 2 0 0) 0 EN 0 0 63 [some (.ref p), some (.int (nI c)), some (.int (nI 8)), some (.int (nI (c / 2 ^ 8 % 16)))] [.int (nI (dg (c / 2 ^ 8 % 16))), .ref p] h5 by
        refine w_icmp_ge (tgt := 56) d_PW_writeHex_46 rfl (fun c46 => ?_) (fun c46 => ?_)
        · have c46 := (nI_leI (a := 10) (b := c / 2 ^ 8 % 16) (by omega) (by omega)).mp c46
          refine w_bipush (v := nI 97) d_PW_writeHex_56 (by decide) ?_
          refine w_iload_n d_PW_writeHex_58 rfl ?_
          refine w_iadd d_PW_writeHex_59 ?_
          refine w_topi (y := nI (97 + c / 2 ^ 8 % 16)) (nI_add _ _) ?_
          refine w_bipush (v := nI 10) d_PW_writeHex_60 (by decide) ?_
          refine w_isub d_PW_writeHex_62 ?_
          refine w_topi (y := nI (97 + c / 2 ^ 8 % 16 - 10)) (pk_sub (by omega)) ?_
          rw [show dg (c / 2 ^ 8 % 16) = 97 + c / 2 ^ 8 % 16 - 10 from if_neg (by omega)] at J63; exact J63
        · have c46 : c / 2 ^ 8 % 16 < 10 := Nat.not_le.mp (fun z => c46 ((nI_leI (a := 10) (b := c / 2 ^ 8 % 16) (by omega) (by omega)).mpr z))
          refine w_bipush (v := nI 48) d_PW_writeHex_49 (by decide) ?_
          refine w_iload_n d_PW_writeHex_51 rfl ?_
          refine w_iadd d_PW_writeHex_52 ?_
          refine w_topi (y := nI (48 + c / 2 ^ 8 % 16)) (nI_add _ _) ?_
          refine w_goto (tgt := 63) d_PW_writeHex_53 rfl ?_
          rw [show dg (c / 2 ^ 8 % 16) = 48 + c / 2 ^ 8 % 16 from if_pos c46] at J63; exact J63
      refine w_callV (as := [.int (nI (dg (c / 2 ^ 8 % 16)))]) (st := []) d_PW_writeHex_63 yM_PW_put l_PW_25 vM_PW_put kp5 rfl rfl rfl rfl (m_PW_put w5) (by decide) (by decide) (by decide) (by decide) (Nat.le_of_ble_eq_true rfl) ?_
      rintro _ h6 ⟨rfl, w6, o6⟩
      refine w_eq (st' := []) rfl ?_
      have kp6 := w6.1
      refine w_iinc (v := nI 4) d_PW_writeHex_66 rfl (by decide) (by decide) ?_
      refine w_pl (pl' := [some (.ref p), some (.int (nI c)), some (.int (nI 4)), some (.int (nI (c / 2 ^ 8 % 16)))]) rfl ?_
      refine w_goto (tgt := 21) d_PW_writeHex_69 rfl ?_
      refine w_iload_n d_PW_writeHex_21 rfl ?_
      refine w_if_lt (tgt := 72) d_PW_writeHex_22 rfl (fun z => absurd z (by decide)) (fun _ => ?_)
      refine w_iload_n d_PW_writeHex_25 rfl ?_
      refine w_iload_n d_PW_writeHex_26 rfl ?_
      refine w_ishr d_PW_writeHex_27 ?_
      refine w_topi (y := nI (c / 2 ^ 4)) (pk_shrN (by omega) _ 4 (by decide)) ?_
      refine w_if_ne (tgt := 35) d_PW_writeHex_28 rfl (fun _ => ?_) (fun z => absurd z (nI_ne0 (by omega) (by omega)))
      refine w_iload_n d_PW_writeHex_35 rfl ?_
      refine w_iload_n d_PW_writeHex_36 rfl ?_
      refine w_ishr d_PW_writeHex_37 ?_
      refine w_topi (y := nI (c / 2 ^ 4)) (pk_shrN (by omega) _ 4 (by decide)) ?_
      refine w_bipush (v := nI 15) d_PW_writeHex_38 (by decide) ?_
      refine w_iand d_PW_writeHex_40 ?_
      refine w_topi (y := nI (c / 2 ^ 4 % 16)) (pk_andN (m := nI 15) (by omega) 4 (by decide)) ?_
      refine w_istore_n d_PW_writeHex_41 (by decide) ?_
      refine w_pl (pl' := [some (.ref p), some (.int (nI c)), some (.int (nI 4)), some (.int (nI (c / 2 ^ 4 % 16)))]) rfl ?_
      refine w_aload_n d_PW_writeHex_42 rfl rfl ?_
      refine w_iload_n d_PW_writeHex_43 rfl ?_
      refine w_bipush (v := nI 10) d_PW_writeHex_44 (by decide) ?_
      suffices J63 : WP X M_PW_writeHex (wR 2 0 0) 0 EN 0 0 63 [some (.ref p), some (.int (nI c)), some (.int (nI 4)), some (.int (nI (c / 2 ^ 4 % 16)))] [.int (nI (dg (c / 2 ^ 4 % 16))), .ref p] h6 by
        refine w_icmp_ge (tgt := 56) d_PW_writeHex_46 rfl (fun c46 => ?_) (fun c46 => ?_)
        · have c46 := (nI_leI (a := 10) (b := c / 2 ^ 4 % 16) (by omega) (by omega)).mp c46
          refine w_bipush (v := nI 97) d_PW_writeHex_56 (by decide) ?_
          refine w_iload_n d_PW_writeHex_58 rfl ?_
          refine w_iadd d_PW_writeHex_59 ?_
          refine w_topi (y := nI (97 + c / 2 ^ 4 % 16)) (nI_add _ _) ?_
          refine w_bipush (v := nI 10) d_PW_writeHex_60 (by decide) ?_
          refine w_isub d_PW_writeHex_62 ?_
          refine w_topi (y := nI (97 + c / 2 ^ 4 % 16 - 10)) (pk_sub (by omega)) ?_
          rw [show dg (c / 2 ^ 4 % 16) = 97 + c / 2 ^ 4 % 16 - 10 from if_neg (by omega)] at J63; exact J63
        · have c46 : c / 2 ^ 4 % 16 < 10 := Nat.not_le.mp (fun z => c46 ((nI_leI (a := 10) (b := c / 2 ^ 4 % 16) (by omega) (by omega)).mpr z))
          refine w_bipush (v := nI 48) d_PW_writeHex_49 (by decide) ?_
          refine w_iload_n d_PW_writeHex_51 rfl ?_
          refine w_iadd d_PW_writeHex_52 ?_
          refine w_topi (y := nI (48 + c / 2 ^ 4 % 16)) (nI_add _ _) ?_
          refine w_goto (tgt := 63) d_PW_writeHex_53 rfl ?_
          rw [show dg (c / 2 ^ 4 % 16) = 48 + c / 2 ^ 4 % 16 from if_pos c46] at J63; exact J63
      refine w_callV (as := [.int (nI (dg (c / 2 ^ 4 % 16)))]) (st := []) d_PW_writeHex_63 yM_PW_put l_PW_25 vM_PW_put kp6 rfl rfl rfl rfl (m_PW_put w6) (by decide) (by decide) (by decide) (by decide) (Nat.le_of_ble_eq_true rfl) ?_
      rintro _ h7 ⟨rfl, w7, o7⟩
      refine w_eq (st' := []) rfl ?_
      have kp7 := w7.1
      refine w_iinc (v := nI 0) d_PW_writeHex_66 rfl (by decide) (by decide) ?_
      refine w_pl (pl' := [some (.ref p), some (.int (nI c)), some (.int (nI 0)), some (.int (nI (c / 2 ^ 4 % 16)))]) rfl ?_
      refine w_goto (tgt := 21) d_PW_writeHex_69 rfl ?_
      refine w_iload_n d_PW_writeHex_21 rfl ?_
      refine w_if_lt (tgt := 72) d_PW_writeHex_22 rfl (fun z => absurd z (by decide)) (fun _ => ?_)
      refine w_iload_n d_PW_writeHex_25 rfl ?_
      refine w_iload_n d_PW_writeHex_26 rfl ?_
      refine w_ishr d_PW_writeHex_27 ?_
      refine w_topi (y := nI (c / 2 ^ 0)) (pk_shrN (by omega) _ 0 (by decide)) ?_
      refine w_if_ne (tgt := 35) d_PW_writeHex_28 rfl (fun _ => ?_) (fun z => absurd z (nI_ne0 (by omega) (by omega)))
      refine w_iload_n d_PW_writeHex_35 rfl ?_
      refine w_iload_n d_PW_writeHex_36 rfl ?_
      refine w_ishr d_PW_writeHex_37 ?_
      refine w_topi (y := nI (c / 2 ^ 0)) (pk_shrN (by omega) _ 0 (by decide)) ?_
      refine w_bipush (v := nI 15) d_PW_writeHex_38 (by decide) ?_
      refine w_iand d_PW_writeHex_40 ?_
      refine w_topi (y := nI (c / 2 ^ 0 % 16)) (pk_andN (m := nI 15) (by omega) 4 (by decide)) ?_
      refine w_istore_n d_PW_writeHex_41 (by decide) ?_
      refine w_pl (pl' := [some (.ref p), some (.int (nI c)), some (.int (nI 0)), some (.int (nI (c / 2 ^ 0 % 16)))]) rfl ?_
      refine w_aload_n d_PW_writeHex_42 rfl rfl ?_
      refine w_iload_n d_PW_writeHex_43 rfl ?_
      refine w_bipush (v := nI 10) d_PW_writeHex_44 (by decide) ?_
      suffices J63 : WP X M_PW_writeHex (wR 2 0 0) 0 EN 0 0 63 [some (.ref p), some (.int (nI c)), some (.int (nI 0)), some (.int (nI (c / 2 ^ 0 % 16)))] [.int (nI (dg (c / 2 ^ 0 % 16))), .ref p] h7 by
        refine w_icmp_ge (tgt := 56) d_PW_writeHex_46 rfl (fun c46 => ?_) (fun c46 => ?_)
        · have c46 := (nI_leI (a := 10) (b := c / 2 ^ 0 % 16) (by omega) (by omega)).mp c46
          refine w_bipush (v := nI 97) d_PW_writeHex_56 (by decide) ?_
          refine w_iload_n d_PW_writeHex_58 rfl ?_
          refine w_iadd d_PW_writeHex_59 ?_
          refine w_topi (y := nI (97 + c / 2 ^ 0 % 16)) (nI_add _ _) ?_
          refine w_bipush (v := nI 10) d_PW_writeHex_60 (by decide) ?_
          refine w_isub d_PW_writeHex_62 ?_
          refine w_topi (y := nI (97 + c / 2 ^ 0 % 16 - 10)) (pk_sub (by omega)) ?_
          rw [show dg (c / 2 ^ 0 % 16) = 97 + c / 2 ^ 0 % 16 - 10 from if_neg (by omega)] at J63; exact J63
        · have c46 : c / 2 ^ 0 % 16 < 10 := Nat.not_le.mp (fun z => c46 ((nI_leI (a := 10) (b := c / 2 ^ 0 % 16) (by omega) (by omega)).mpr z))
          refine w_bipush (v := nI 48) d_PW_writeHex_49 (by decide) ?_
          refine w_iload_n d_PW_writeHex_51 rfl ?_
          refine w_iadd d_PW_writeHex_52 ?_
          refine w_topi (y := nI (48 + c / 2 ^ 0 % 16)) (nI_add _ _) ?_
          refine w_goto (tgt := 63) d_PW_writeHex_53 rfl ?_
          rw [show dg (c / 2 ^ 0 % 16) = 48 + c / 2 ^ 0 % 16 from if_pos c46] at J63; exact J63
      refine w_callV (as := [.int (nI (dg (c / 2 ^ 0 % 16)))]) (st := []) d_PW_writeHex_63 yM_PW_put l_PW_25 vM_PW_put kp7 rfl rfl rfl rfl (m_PW_put w7) (by decide) (by decide) (by decide) (by decide) (Nat.le_of_ble_eq_true rfl) ?_
      rintro _ h8 ⟨rfl, w8, o8⟩
      refine w_eq (st' := []) rfl ?_
      have kp8 := w8.1
      refine w_iinc (v := (-4)) d_PW_writeHex_66 rfl (by decide) (by decide) ?_
      refine w_pl (pl' := [some (.ref p), some (.int (nI c)), some (.int ((-4))), some (.int (nI (c / 2 ^ 0 % 16)))]) rfl ?_
      refine w_goto (tgt := 21) d_PW_writeHex_69 rfl ?_
      refine w_iload_n d_PW_writeHex_21 rfl ?_
      refine w_if_lt (tgt := 72) d_PW_writeHex_22 rfl (fun _ => ?_) (fun z => absurd (by decide) z)
      refine w_aload_n d_PW_writeHex_72 rfl rfl ?_
      refine w_bipush (v := nI 125) d_PW_writeHex_73 (by decide) ?_
      refine w_callV (as := [.int (nI 125)]) (st := []) d_PW_writeHex_75 yM_PW_put l_PW_25 vM_PW_put kp8 rfl rfl rfl rfl (m_PW_put w8) (by decide) (by decide) (by decide) (by decide) (Nat.le_of_ble_eq_true rfl) ?_
      rintro _ h9 ⟨rfl, w9, o9⟩
      refine w_eq (st' := []) rfl ?_
      have kp9 := w9.1
      rw [← hEN]
      refine w_vret d_PW_writeHex_78 rfl ?_
      have hxe : hx c = [dg (c / 2 ^ 16 % 16), dg (c / 2 ^ 12 % 16), dg (c / 2 ^ 8 % 16), dg (c / 2 ^ 4 % 16), dg (c / 2 ^ 0 % 16)] := by unfold hx; rw [if_neg (fun q => q z20), if_pos z16]
      refine ⟨rfl, ?_, ((((((((o1.tr o2).tr o3).tr o4).tr o5).tr o6).tr o7).tr o8).tr o9)⟩
      rw [hxe]
      have q := w9
      simp only [List.append_assoc, List.cons_append, List.nil_append] at q ⊢
      exact q
    · have z16 : c / 2 ^ 16 = 0 := by
        rcases Nat.eq_zero_or_pos (c / 2 ^ 16) with z | z
        · exact z
        · exact absurd c28 (nI_ne0 z (by omega))
      refine w_iload_n d_PW_writeHex_31 rfl ?_
      refine w_if_ne (tgt := 66) d_PW_writeHex_32 rfl (fun _ => ?_) (fun z => absurd z (by decide))
      refine w_iinc (v := nI 12) d_PW_writeHex_66 rfl (by decide) (by decide) ?_
      refine w_pl (pl' := [some (.ref p), some (.int (nI c)), some (.int (nI 12)), none]) rfl ?_
      refine w_goto (tgt := 21) d_PW_writeHex_69 rfl ?_
      refine w_iload_n d_PW_writeHex_21 rfl ?_
      refine w_if_lt (tgt := 72) d_PW_writeHex_22 rfl (fun z => absurd z (by decide)) (fun _ => ?_)
      refine w_iload_n d_PW_writeHex_25 rfl ?_
      refine w_iload_n d_PW_writeHex_26 rfl ?_
      refine w_ishr d_PW_writeHex_27 ?_
      refine w_topi (y := nI (c / 2 ^ 12)) (pk_shrN (by omega) _ 12 (by decide)) ?_
      refine w_if_ne (tgt := 35) d_PW_writeHex_28 rfl (fun c28 => ?_) (fun c28 => ?_)
      · have z12 : ¬ c / 2 ^ 12 = 0 := fun z => c28 (by rw [z]; decide)
        refine w_iload_n d_PW_writeHex_35 rfl ?_
        refine w_iload_n d_PW_writeHex_36 rfl ?_
        refine w_ishr d_PW_writeHex_37 ?_
        refine w_topi (y := nI (c / 2 ^ 12)) (pk_shrN (by omega) _ 12 (by decide)) ?_
        refine w_bipush (v := nI 15) d_PW_writeHex_38 (by decide) ?_
        refine w_iand d_PW_writeHex_40 ?_
        refine w_topi (y := nI (c / 2 ^ 12 % 16)) (pk_andN (m := nI 15) (by omega) 4 (by decide)) ?_
        refine w_istore_n d_PW_writeHex_41 (by decide) ?_
        refine w_pl (pl' := [some (.ref p), some (.int (nI c)), some (.int (nI 12)), some (.int (nI (c / 2 ^ 12 % 16)))]) rfl ?_
        refine w_aload_n d_PW_writeHex_42 rfl rfl ?_
        refine w_iload_n d_PW_writeHex_43 rfl ?_
        refine w_bipush (v := nI 10) d_PW_writeHex_44 (by decide) ?_
        suffices J63 : WP X M_PW_writeHex (wR 2 0 0) 0 EN 0 0 63 [some (.ref p), some (.int (nI c)), some (.int (nI 12)), some (.int (nI (c / 2 ^ 12 % 16)))] [.int (nI (dg (c / 2 ^ 12 % 16))), .ref p] h3 by
          refine w_icmp_ge (tgt := 56) d_PW_writeHex_46 rfl (fun c46 => ?_) (fun c46 => ?_)
          · have c46 := (nI_leI (a := 10) (b := c / 2 ^ 12 % 16) (by omega) (by omega)).mp c46
            refine w_bipush (v := nI 97) d_PW_writeHex_56 (by decide) ?_
            refine w_iload_n d_PW_writeHex_58 rfl ?_
            refine w_iadd d_PW_writeHex_59 ?_
            refine w_topi (y := nI (97 + c / 2 ^ 12 % 16)) (nI_add _ _) ?_
            refine w_bipush (v := nI 10) d_PW_writeHex_60 (by decide) ?_
            refine w_isub d_PW_writeHex_62 ?_
            refine w_topi (y := nI (97 + c / 2 ^ 12 % 16 - 10)) (pk_sub (by omega)) ?_
            rw [show dg (c / 2 ^ 12 % 16) = 97 + c / 2 ^ 12 % 16 - 10 from if_neg (by omega)] at J63; exact J63
          · have c46 : c / 2 ^ 12 % 16 < 10 := Nat.not_le.mp (fun z => c46 ((nI_leI (a := 10) (b := c / 2 ^ 12 % 16) (by omega) (by omega)).mpr z))
            refine w_bipush (v := nI 48) d_PW_writeHex_49 (by decide) ?_
            refine w_iload_n d_PW_writeHex_51 rfl ?_
            refine w_iadd d_PW_writeHex_52 ?_
            refine w_topi (y := nI (48 + c / 2 ^ 12 % 16)) (nI_add _ _) ?_
            refine w_goto (tgt := 63) d_PW_writeHex_53 rfl ?_
            rw [show dg (c / 2 ^ 12 % 16) = 48 + c / 2 ^ 12 % 16 from if_pos c46] at J63; exact J63
        refine w_callV (as := [.int (nI (dg (c / 2 ^ 12 % 16)))]) (st := []) d_PW_writeHex_63 yM_PW_put l_PW_25 vM_PW_put kp3 rfl rfl rfl rfl (m_PW_put w3) (by decide) (by decide) (by decide) (by decide) (Nat.le_of_ble_eq_true rfl) ?_
        rintro _ h4 ⟨rfl, w4, o4⟩
        refine w_eq (st' := []) rfl ?_
        have kp4 := w4.1
        refine w_iinc (v := nI 8) d_PW_writeHex_66 rfl (by decide) (by decide) ?_
        refine w_pl (pl' := [some (.ref p), some (.int (nI c)), some (.int (nI 8)), some (.int (nI (c / 2 ^ 12 % 16)))]) rfl ?_
        refine w_goto (tgt := 21) d_PW_writeHex_69 rfl ?_
        refine w_iload_n d_PW_writeHex_21 rfl ?_
        refine w_if_lt (tgt := 72) d_PW_writeHex_22 rfl (fun z => absurd z (by decide)) (fun _ => ?_)
        refine w_iload_n d_PW_writeHex_25 rfl ?_
        refine w_iload_n d_PW_writeHex_26 rfl ?_
        refine w_ishr d_PW_writeHex_27 ?_
        refine w_topi (y := nI (c / 2 ^ 8)) (pk_shrN (by omega) _ 8 (by decide)) ?_
        refine w_if_ne (tgt := 35) d_PW_writeHex_28 rfl (fun _ => ?_) (fun z => absurd z (nI_ne0 (by omega) (by omega)))
        refine w_iload_n d_PW_writeHex_35 rfl ?_
        refine w_iload_n d_PW_writeHex_36 rfl ?_
        refine w_ishr d_PW_writeHex_37 ?_
        refine w_topi (y := nI (c / 2 ^ 8)) (pk_shrN (by omega) _ 8 (by decide)) ?_
        refine w_bipush (v := nI 15) d_PW_writeHex_38 (by decide) ?_
        refine w_iand d_PW_writeHex_40 ?_
        refine w_topi (y := nI (c / 2 ^ 8 % 16)) (pk_andN (m := nI 15) (by omega) 4 (by decide)) ?_
        refine w_istore_n d_PW_writeHex_41 (by decide) ?_
        refine w_pl (pl' := [some (.ref p), some (.int (nI c)), some (.int (nI 8)), some (.int (nI (c / 2 ^ 8 % 16)))]) rfl ?_
        refine w_aload_n d_PW_writeHex_42 rfl rfl ?_
        refine w_iload_n d_PW_writeHex_43 rfl ?_
        refine w_bipush (v := nI 10) d_PW_writeHex_44 (by decide) ?_
        suffices J63 : WP X M_PW_writeHex (wR 2 0 0) 0 EN 0 0 63 [some (.ref p), some (.int (nI c)), some (.int (nI 8)), some (.int (nI (c / 2 ^ 8 % 16)))] [.int (nI (dg (c / 2 ^ 8 % 16))), .ref p] h4 by
          refine w_icmp_ge (tgt := 56) d_PW_writeHex_46 rfl (fun c46 => ?_) (fun c46 => ?_)
          · have c46 := (nI_leI (a := 10) (b := c / 2 ^ 8 % 16) (by omega) (by omega)).mp c46
            refine w_bipush (v := nI 97) d_PW_writeHex_56 (by decide) ?_
            refine w_iload_n d_PW_writeHex_58 rfl ?_
            refine w_iadd d_PW_writeHex_59 ?_
            refine w_topi (y := nI (97 + c / 2 ^ 8 % 16)) (nI_add _ _) ?_
            refine w_bipush (v := nI 10) d_PW_writeHex_60 (by decide) ?_
            refine w_isub d_PW_writeHex_62 ?_
            refine w_topi (y := nI (97 + c / 2 ^ 8 % 16 - 10)) (pk_sub (by omega)) ?_
            rw [show dg (c / 2 ^ 8 % 16) = 97 + c / 2 ^ 8 % 16 - 10 from if_neg (by omega)] at J63; exact J63
          · have c46 : c / 2 ^ 8 % 16 < 10 := Nat.not_le.mp (fun z => c46 ((nI_leI (a := 10) (b := c / 2 ^ 8 % 16) (by omega) (by omega)).mpr z))
            refine w_bipush (v := nI 48) d_PW_writeHex_49 (by decide) ?_
            refine w_iload_n d_PW_writeHex_51 rfl ?_
            refine w_iadd d_PW_writeHex_52 ?_
            refine w_topi (y := nI (48 + c / 2 ^ 8 % 16)) (nI_add _ _) ?_
            refine w_goto (tgt := 63) d_PW_writeHex_53 rfl ?_
            rw [show dg (c / 2 ^ 8 % 16) = 48 + c / 2 ^ 8 % 16 from if_pos c46] at J63; exact J63
        refine w_callV (as := [.int (nI (dg (c / 2 ^ 8 % 16)))]) (st := []) d_PW_writeHex_63 yM_PW_put l_PW_25 vM_PW_put kp4 rfl rfl rfl rfl (m_PW_put w4) (by decide) (by decide) (by decide) (by decide) (Nat.le_of_ble_eq_true rfl) ?_
        rintro _ h5 ⟨rfl, w5, o5⟩
        refine w_eq (st' := []) rfl ?_
        have kp5 := w5.1
        refine w_iinc (v := nI 4) d_PW_writeHex_66 rfl (by decide) (by decide) ?_
        refine w_pl (pl' := [some (.ref p), some (.int (nI c)), some (.int (nI 4)), some (.int (nI (c / 2 ^ 8 % 16)))]) rfl ?_
        refine w_goto (tgt := 21) d_PW_writeHex_69 rfl ?_
        refine w_iload_n d_PW_writeHex_21 rfl ?_
        refine w_if_lt (tgt := 72) d_PW_writeHex_22 rfl (fun z => absurd z (by decide)) (fun _ => ?_)
        refine w_iload_n d_PW_writeHex_25 rfl ?_
        refine w_iload_n d_PW_writeHex_26 rfl ?_
        refine w_ishr d_PW_writeHex_27 ?_
        refine w_topi (y := nI (c / 2 ^ 4)) (pk_shrN (by omega) _ 4 (by decide)) ?_
        refine w_if_ne (tgt := 35) d_PW_writeHex_28 rfl (fun _ => ?_) (fun z => absurd z (nI_ne0 (by omega) (by omega)))
        refine w_iload_n d_PW_writeHex_35 rfl ?_
        refine w_iload_n d_PW_writeHex_36 rfl ?_
        refine w_ishr d_PW_writeHex_37 ?_
        refine w_topi (y := nI (c / 2 ^ 4)) (pk_shrN (by omega) _ 4 (by decide)) ?_
        refine w_bipush (v := nI 15) d_PW_writeHex_38 (by decide) ?_
        refine w_iand d_PW_writeHex_40 ?_
        refine w_topi (y := nI (c / 2 ^ 4 % 16)) (pk_andN (m := nI 15) (by omega) 4 (by decide)) ?_
        refine w_istore_n d_PW_writeHex_41 (by decide) ?_
        refine w_pl (pl' := [some (.ref p), some (.int (nI c)), some (.int (nI 4)), some (.int (nI (c / 2 ^ 4 % 16)))]) rfl ?_
        refine w_aload_n d_PW_writeHex_42 rfl rfl ?_
        refine w_iload_n d_PW_writeHex_43 rfl ?_
        refine w_bipush (v := nI 10) d_PW_writeHex_44 (by decide) ?_
        suffices J63 : WP X M_PW_writeHex (wR 2 0 0) 0 EN 0 0 63 [some (.ref p), some (.int (nI c)), some (.int (nI 4)), some (.int (nI (c / 2 ^ 4 % 16)))] [.int (nI (dg (c / 2 ^ 4 % 16))), .ref p] h5 by
          refine w_icmp_ge (tgt := 56) d_PW_writeHex_46 rfl (fun c46 => ?_) (fun c46 => ?_)
          · have c46 := (nI_leI (a := 10) (b := c / 2 ^ 4 % 16) (by omega) (by omega)).mp c46
            refine w_bipush (v := nI 97) d_PW_writeHex_56 (by decide) ?_
            refine w_iload_n d_PW_writeHex_58 rfl ?_
            refine w_iadd d_PW_writeHex_59 ?_
            refine w_topi (y := nI (97 + c / 2 ^ 4 % 16)) (nI_add _ _) ?_
            refine w_bipush (v := nI 10) d_PW_writeHex_60 (by decide) ?_
            refine w_isub d_PW_writeHex_62 ?_
            refine w_topi (y := nI (97 + c / 2 ^ 4 % 16 - 10)) (pk_sub (by omega)) ?_
            rw [show dg (c / 2 ^ 4 % 16) = 97 + c / 2 ^ 4 % 16 - 10 from if_neg (by omega)] at J63; exact J63
          · have c46 : c / 2 ^ 4 % 16 < 10 := Nat.not_le.mp (fun z => c46 ((nI_leI (a := 10) (b := c / 2 ^ 4 % 16) (by omega) (by omega)).mpr z))
            refine w_bipush (v := nI 48) d_PW_writeHex_49 (by decide) ?_
            refine w_iload_n d_PW_writeHex_51 rfl ?_
            refine w_iadd d_PW_writeHex_52 ?_
            refine w_topi (y := nI (48 + c / 2 ^ 4 % 16)) (nI_add _ _) ?_
            refine w_goto (tgt := 63) d_PW_writeHex_53 rfl ?_
            rw [show dg (c / 2 ^ 4 % 16) = 48 + c / 2 ^ 4 % 16 from if_pos c46] at J63; exact J63
        refine w_callV (as := [.int (nI (dg (c / 2 ^ 4 % 16)))]) (st := []) d_PW_writeHex_63 yM_PW_put l_PW_25 vM_PW_put kp5 rfl rfl rfl rfl (m_PW_put w5) (by decide) (by decide) (by decide) (by decide) (Nat.le_of_ble_eq_true rfl) ?_
        rintro _ h6 ⟨rfl, w6, o6⟩
        refine w_eq (st' := []) rfl ?_
        have kp6 := w6.1
        refine w_iinc (v := nI 0) d_PW_writeHex_66 rfl (by decide) (by decide) ?_
        refine w_pl (pl' := [some (.ref p), some (.int (nI c)), some (.int (nI 0)), some (.int (nI (c / 2 ^ 4 % 16)))]) rfl ?_
        refine w_goto (tgt := 21) d_PW_writeHex_69 rfl ?_
        refine w_iload_n d_PW_writeHex_21 rfl ?_
        refine w_if_lt (tgt := 72) d_PW_writeHex_22 rfl (fun z => absurd z (by decide)) (fun _ => ?_)
        refine w_iload_n d_PW_writeHex_25 rfl ?_
        refine w_iload_n d_PW_writeHex_26 rfl ?_
        refine w_ishr d_PW_writeHex_27 ?_
        refine w_topi (y := nI (c / 2 ^ 0)) (pk_shrN (by omega) _ 0 (by decide)) ?_
        refine w_if_ne (tgt := 35) d_PW_writeHex_28 rfl (fun _ => ?_) (fun z => absurd z (nI_ne0 (by omega) (by omega)))
        refine w_iload_n d_PW_writeHex_35 rfl ?_
        refine w_iload_n d_PW_writeHex_36 rfl ?_
        refine w_ishr d_PW_writeHex_37 ?_
        refine w_topi (y := nI (c / 2 ^ 0)) (pk_shrN (by omega) _ 0 (by decide)) ?_
        refine w_bipush (v := nI 15) d_PW_writeHex_38 (by decide) ?_
        refine w_iand d_PW_writeHex_40 ?_
        refine w_topi (y := nI (c / 2 ^ 0 % 16)) (pk_andN (m := nI 15) (by omega) 4 (by decide)) ?_
        refine w_istore_n d_PW_writeHex_41 (by decide) ?_
        refine w_pl (pl' := [some (.ref p), some (.int (nI c)), some (.int (nI 0)), some (.int (nI (c / 2 ^ 0 % 16)))]) rfl ?_
        refine w_aload_n d_PW_writeHex_42 rfl rfl ?_
        refine w_iload_n d_PW_writeHex_43 rfl ?_
        refine w_bipush (v := nI 10) d_PW_writeHex_44 (by decide) ?_
        suffices J63 : WP X M_PW_writeHex (wR 2 0 0) 0 EN 0 0 63 [some (.ref p), some (.int (nI c)), some (.int (nI 0)), some (.int (nI (c / 2 ^ 0 % 16)))] [.int (nI (dg (c / 2 ^ 0 % 16))), .ref p] h6 by
          refine w_icmp_ge (tgt := 56) d_PW_writeHex_46 rfl (fun c46 => ?_) (fun c46 => ?_)
          · have c46 := (nI_leI (a := 10) (b := c / 2 ^ 0 % 16) (by omega) (by omega)).mp c46
            refine w_bipush (v := nI 97) d_PW_writeHex_56 (by decide) ?_
            refine w_iload_n d_PW_writeHex_58 rfl ?_
            refine w_iadd d_PW_writeHex_59 ?_
            refine w_topi (y := nI (97 + c / 2 ^ 0 % 16)) (nI_add _ _) ?_
            refine w_bipush (v := nI 10) d_PW_writeHex_60 (by decide) ?_
            refine w_isub d_PW_writeHex_62 ?_
            refine w_topi (y := nI (97 + c / 2 ^ 0 % 16 - 10)) (pk_sub (by omega)) ?_
            rw [show dg (c / 2 ^ 0 % 16) = 97 + c / 2 ^ 0 % 16 - 10 from if_neg (by omega)] at J63; exact J63
          · have c46 : c / 2 ^ 0 % 16 < 10 := Nat.not_le.mp (fun z => c46 ((nI_leI (a := 10) (b := c / 2 ^ 0 % 16) (by omega) (by omega)).mpr z))
            refine w_bipush (v := nI 48) d_PW_writeHex_49 (by decide) ?_
            refine w_iload_n d_PW_writeHex_51 rfl ?_
            refine w_iadd d_PW_writeHex_52 ?_
            refine w_topi (y := nI (48 + c / 2 ^ 0 % 16)) (nI_add _ _) ?_
            refine w_goto (tgt := 63) d_PW_writeHex_53 rfl ?_
            rw [show dg (c / 2 ^ 0 % 16) = 48 + c / 2 ^ 0 % 16 from if_pos c46] at J63; exact J63
        refine w_callV (as := [.int (nI (dg (c / 2 ^ 0 % 16)))]) (st := []) d_PW_writeHex_63 yM_PW_put l_PW_25 vM_PW_put kp6 rfl rfl rfl rfl (m_PW_put w6) (by decide) (by decide) (by decide) (by decide) (Nat.le_of_ble_eq_true rfl) ?_
        rintro _ h7 ⟨rfl, w7, o7⟩
        refine w_eq (st' := []) rfl ?_
        have kp7 := w7.1
        refine w_iinc (v := (-4)) d_PW_writeHex_66 rfl (by decide) (by decide) ?_
        refine w_pl (pl' := [some (.ref p), some (.int (nI c)), some (.int ((-4))), some (.int (nI (c / 2 ^ 0 % 16)))]) rfl ?_
        refine w_goto (tgt := 21) d_PW_writeHex_69 rfl ?_
        refine w_iload_n d_PW_writeHex_21 rfl ?_
        refine w_if_lt (tgt := 72) d_PW_writeHex_22 rfl (fun _ => ?_) (fun z => absurd (by decide) z)
        refine w_aload_n d_PW_writeHex_72 rfl rfl ?_
        refine w_bipush (v := nI 125) d_PW_writeHex_73 (by decide) ?_
        refine w_callV (as := [.int (nI 125)]) (st := []) d_PW_writeHex_75 yM_PW_put l_PW_25 vM_PW_put kp7 rfl rfl rfl rfl (m_PW_put w7) (by decide) (by decide) (by decide) (by decide) (Nat.le_of_ble_eq_true rfl) ?_
        rintro _ h8 ⟨rfl, w8, o8⟩
        refine w_eq (st' := []) rfl ?_
        have kp8 := w8.1
        rw [← hEN]
        refine w_vret d_PW_writeHex_78 rfl ?_
        have hxe : hx c = [dg (c / 2 ^ 12 % 16), dg (c / 2 ^ 8 % 16), dg (c / 2 ^ 4 % 16), dg (c / 2 ^ 0 % 16)] := by unfold hx; rw [if_neg (fun q => q z20), if_neg (fun q => q z16), if_pos z12]
        refine ⟨rfl, ?_, (((((((o1.tr o2).tr o3).tr o4).tr o5).tr o6).tr o7).tr o8)⟩
        rw [hxe]
        have q := w8
        simp only [List.append_assoc, List.cons_append, List.nil_append] at q ⊢
        exact q
      · have z12 : c / 2 ^ 12 = 0 := by
          rcases Nat.eq_zero_or_pos (c / 2 ^ 12) with z | z
          · exact z
          · exact absurd c28 (nI_ne0 z (by omega))
        refine w_iload_n d_PW_writeHex_31 rfl ?_
        refine w_if_ne (tgt := 66) d_PW_writeHex_32 rfl (fun _ => ?_) (fun z => absurd z (by decide))
        refine w_iinc (v := nI 8) d_PW_writeHex_66 rfl (by decide) (by decide) ?_
        refine w_pl (pl' := [some (.ref p), some (.int (nI c)), some (.int (nI 8)), none]) rfl ?_
        refine w_goto (tgt := 21) d_PW_writeHex_69 rfl ?_
        refine w_iload_n d_PW_writeHex_21 rfl ?_
        refine w_if_lt (tgt := 72) d_PW_writeHex_22 rfl (fun z => absurd z (by decide)) (fun _ => ?_)
        refine w_iload_n d_PW_writeHex_25 rfl ?_
        refine w_iload_n d_PW_writeHex_26 rfl ?_
        refine w_ishr d_PW_writeHex_27 ?_
        refine w_topi (y := nI (c / 2 ^ 8)) (pk_shrN (by omega) _ 8 (by decide)) ?_
        refine w_if_ne (tgt := 35) d_PW_writeHex_28 rfl (fun c28 => ?_) (fun c28 => ?_)
        · have z8 : ¬ c / 2 ^ 8 = 0 := fun z => c28 (by rw [z]; decide)
          refine w_iload_n d_PW_writeHex_35 rfl ?_
          refine w_iload_n d_PW_writeHex_36 rfl ?_
          refine w_ishr d_PW_writeHex_37 ?_
          refine w_topi (y := nI (c / 2 ^ 8)) (pk_shrN (by omega) _ 8 (by decide)) ?_
          refine w_bipush (v := nI 15) d_PW_writeHex_38 (by decide) ?_
          refine w_iand d_PW_writeHex_40 ?_
          refine w_topi (y := nI (c / 2 ^ 8 % 16)) (pk_andN (m := nI 15) (by omega) 4 (by decide)) ?_
          refine w_istore_n d_PW_writeHex_41 (by decide) ?_
          refine w_pl (pl' := [some (.ref p), some (.int (nI c)), some (.int (nI 8)), some (.int (nI (c / 2 ^ 8 % 16)))]) rfl ?_
          refine w_aload_n d_PW_writeHex_42 rfl rfl ?_
          refine w_iload_n d_PW_writeHex_43 rfl ?_
          refine w_bipush (v := nI 10) d_PW_writeHex_44 (by decide) ?_
          suffices J63 : WP X M_PW_writeHex (wR 2 0 0) 0 EN 0 0 63 [some (.ref p), some (.int (nI c)), some (.int (nI 8)), some (.int (nI (c / 2 ^ 8 % 16)))] [.int (nI (dg (c / 2 ^ 8 % 16))), .ref p] h3 by
            refine w_icmp_ge (tgt := 56) d_PW_writeHex_46 rfl (fun c46 => ?_) (fun c46 => ?_)
            · have c46 := (nI_leI (a := 10) (b := c / 2 ^ 8 % 16) (by omega) (by omega)).mp c46
              refine w_bipush (v := nI 97) d_PW_writeHex_56 (by decide) ?_
              refine w_iload_n d_PW_writeHex_58 rfl ?_
              refine w_iadd d_PW_writeHex_59 ?_
              refine w_topi (y := nI (97 + c / 2 ^ 8 % 16)) (nI_add _ _) ?_
              refine w_bipush (v := nI 10) d_PW_writeHex_60 (by decide) ?_
              refine w_isub d_PW_writeHex_62 ?_
              refine w_topi (y := nI (97 + c / 2 ^ 8 % 16 - 10)) (pk_sub (by omega)) ?_
              rw [show dg (c / 2 ^ 8 % 16) = 97 + c / 2 ^ 8 % 16 - 10 from if_neg (by omega)] at J63; exact J63
            · have c46 : c / 2 ^ 8 % 16 < 10 := Nat.not_le.mp (fun z => c46 ((nI_leI (a := 10) (b := c / 2 ^ 8 % 16) (by omega) (by omega)).mpr z))
              refine w_bipush (v := nI 48) d_PW_writeHex_49 (by decide) ?_
              refine w_iload_n d_PW_writeHex_51 rfl ?_
              refine w_iadd d_PW_writeHex_52 ?_
              refine w_topi (y := nI (48 + c / 2 ^ 8 % 16)) (nI_add _ _) ?_
              refine w_goto (tgt := 63) d_PW_writeHex_53 rfl ?_
              rw [show dg (c / 2 ^ 8 % 16) = 48 + c / 2 ^ 8 % 16 from if_pos c46] at J63; exact J63
          refine w_callV (as := [.int (nI (dg (c / 2 ^ 8 % 16)))]) (st := []) d_PW_writeHex_63 yM_PW_put l_PW_25 vM_PW_put kp3 rfl rfl rfl rfl (m_PW_put w3) (by decide) (by decide) (by decide) (by decide) (Nat.le_of_ble_eq_true rfl) ?_
          rintro _ h4 ⟨rfl, w4, o4⟩
          refine w_eq (st' := []) rfl ?_
          have kp4 := w4.1
          refine w_iinc (v := nI 4) d_PW_writeHex_66 rfl (by decide) (by decide) ?_
          refine w_pl (pl' := [some (.ref p), some (.int (nI c)), some (.int (nI 4)), some (.int (nI (c / 2 ^ 8 % 16)))]) rfl ?_
          refine w_goto (tgt := 21) d_PW_writeHex_69 rfl ?_
          refine w_iload_n d_PW_writeHex_21 rfl ?_
          refine w_if_lt (tgt := 72) d_PW_writeHex_22 rfl (fun z => absurd z (by decide)) (fun _ => ?_)
          refine w_iload_n d_PW_writeHex_25 rfl ?_
          refine w_iload_n d_PW_writeHex_26 rfl ?_
          refine w_ishr d_PW_writeHex_27 ?_
          refine w_topi (y := nI (c / 2 ^ 4)) (pk_shrN (by omega) _ 4 (by decide)) ?_
          refine w_if_ne (tgt := 35) d_PW_writeHex_28 rfl (fun _ => ?_) (fun z => absurd z (nI_ne0 (by omega) (by omega)))
          refine w_iload_n d_PW_writeHex_35 rfl ?_
          refine w_iload_n d_PW_writeHex_36 rfl ?_
          refine w_ishr d_PW_writeHex_37 ?_
          refine w_topi (y := nI (c / 2 ^ 4)) (pk_shrN (by omega) _ 4 (by decide)) ?_
          refine w_bipush (v := nI 15) d_PW_writeHex_38 (by decide) ?_
          refine w_iand d_PW_writeHex_40 ?_
          refine w_topi (y := nI (c / 2 ^ 4 % 16)) (pk_andN (m := nI 15) (by omega) 4 (by decide)) ?_
          refine w_istore_n d_PW_writeHex_41 (by decide) ?_
          refine w_pl (pl' := [some (.ref p), some (.int (nI c)), some (.int (nI 4)), some (.int (nI (c / 2 ^ 4 % 16)))]) rfl ?_
          refine w_aload_n d_PW_writeHex_42 rfl rfl ?_
          refine w_iload_n d_PW_writeHex_43 rfl ?_
          refine w_bipush (v := nI 10) d_PW_writeHex_44 (by decide) ?_
          suffices J63 : WP X M_PW_writeHex (wR 2 0 0) 0 EN 0 0 63 [some (.ref p), some (.int (nI c)), some (.int (nI 4)), some (.int (nI (c / 2 ^ 4 % 16)))] [.int (nI (dg (c / 2 ^ 4 % 16))), .ref p] h4 by
            refine w_icmp_ge (tgt := 56) d_PW_writeHex_46 rfl (fun c46 => ?_) (fun c46 => ?_)
            · have c46 := (nI_leI (a := 10) (b := c / 2 ^ 4 % 16) (by omega) (by omega)).mp c46
              refine w_bipush (v := nI 97) d_PW_writeHex_56 (by decide) ?_
              refine w_iload_n d_PW_writeHex_58 rfl ?_
              refine w_iadd d_PW_writeHex_59 ?_
              refine w_topi (y := nI (97 + c / 2 ^ 4 % 16)) (nI_add _ _) ?_
              refine w_bipush (v := nI 10) d_PW_writeHex_60 (by decide) ?_
              refine w_isub d_PW_writeHex_62 ?_
              refine w_topi (y := nI (97 + c / 2 ^ 4 % 16 - 10)) (pk_sub (by omega)) ?_
              rw [show dg (c / 2 ^ 4 % 16) = 97 + c / 2 ^ 4 % 16 - 10 from if_neg (by omega)] at J63; exact J63
            · have c46 : c / 2 ^ 4 % 16 < 10 := Nat.not_le.mp (fun z => c46 ((nI_leI (a := 10) (b := c / 2 ^ 4 % 16) (by omega) (by omega)).mpr z))
              refine w_bipush (v := nI 48) d_PW_writeHex_49 (by decide) ?_
              refine w_iload_n d_PW_writeHex_51 rfl ?_
              refine w_iadd d_PW_writeHex_52 ?_
              refine w_topi (y := nI (48 + c / 2 ^ 4 % 16)) (nI_add _ _) ?_
              refine w_goto (tgt := 63) d_PW_writeHex_53 rfl ?_
              rw [show dg (c / 2 ^ 4 % 16) = 48 + c / 2 ^ 4 % 16 from if_pos c46] at J63; exact J63
          refine w_callV (as := [.int (nI (dg (c / 2 ^ 4 % 16)))]) (st := []) d_PW_writeHex_63 yM_PW_put l_PW_25 vM_PW_put kp4 rfl rfl rfl rfl (m_PW_put w4) (by decide) (by decide) (by decide) (by decide) (Nat.le_of_ble_eq_true rfl) ?_
          rintro _ h5 ⟨rfl, w5, o5⟩
          refine w_eq (st' := []) rfl ?_
          have kp5 := w5.1
          refine w_iinc (v := nI 0) d_PW_writeHex_66 rfl (by decide) (by decide) ?_
          refine w_pl (pl' := [some (.ref p), some (.int (nI c)), some (.int (nI 0)), some (.int (nI (c / 2 ^ 4 % 16)))]) rfl ?_
          refine w_goto (tgt := 21) d_PW_writeHex_69 rfl ?_
          refine w_iload_n d_PW_writeHex_21 rfl ?_
          refine w_if_lt (tgt := 72) d_PW_writeHex_22 rfl (fun z => absurd z (by decide)) (fun _ => ?_)
          refine w_iload_n d_PW_writeHex_25 rfl ?_
          refine w_iload_n d_PW_writeHex_26 rfl ?_
          refine w_ishr d_PW_writeHex_27 ?_
          refine w_topi (y := nI (c / 2 ^ 0)) (pk_shrN (by omega) _ 0 (by decide)) ?_
          refine w_if_ne (tgt := 35) d_PW_writeHex_28 rfl (fun _ => ?_) (fun z => absurd z (nI_ne0 (by omega) (by omega)))
          refine w_iload_n d_PW_writeHex_35 rfl ?_
          refine w_iload_n d_PW_writeHex_36 rfl ?_
          refine w_ishr d_PW_writeHex_37 ?_
          refine w_topi (y := nI (c / 2 ^ 0)) (pk_shrN (by omega) _ 0 (by decide)) ?_
          refine w_bipush (v := nI 15) d_PW_writeHex_38 (by decide) ?_
          refine w_iand d_PW_writeHex_40 ?_
          refine w_topi (y := nI (c / 2 ^ 0 % 16)) (pk_andN (m := nI 15) (by omega) 4 (by decide)) ?_
          refine w_istore_n d_PW_writeHex_41 (by decide) ?_
          refine w_pl (pl' := [some (.ref p), some (.int (nI c)), some (.int (nI 0)), some (.int (nI (c / 2 ^ 0 % 16)))]) rfl ?_
          refine w_aload_n d_PW_writeHex_42 rfl rfl ?_
          refine w_iload_n d_PW_writeHex_43 rfl ?_
          refine w_bipush (v := nI 10) d_PW_writeHex_44 (by decide) ?_
          suffices J63 : WP X M_PW_writeHex (wR 2 0 0) 0 EN 0 0 63 [some (.ref p), some (.int (nI c)), some (.int (nI 0)), some (.int (nI (c / 2 ^ 0 % 16)))] [.int (nI (dg (c / 2 ^ 0 % 16))), .ref p] h5 by
            refine w_icmp_ge (tgt := 56) d_PW_writeHex_46 rfl (fun c46 => ?_) (fun c46 => ?_)
            · have c46 := (nI_leI (a := 10) (b := c / 2 ^ 0 % 16) (by omega) (by omega)).mp c46
              refine w_bipush (v := nI 97) d_PW_writeHex_56 (by decide) ?_
              refine w_iload_n d_PW_writeHex_58 rfl ?_
              refine w_iadd d_PW_writeHex_59 ?_
              refine w_topi (y := nI (97 + c / 2 ^ 0 % 16)) (nI_add _ _) ?_
              refine w_bipush (v := nI 10) d_PW_writeHex_60 (by decide) ?_
              refine w_isub d_PW_writeHex_62 ?_
              refine w_topi (y := nI (97 + c / 2 ^ 0 % 16 - 10)) (pk_sub (by omega)) ?_
              rw [show dg (c / 2 ^ 0 % 16) = 97 + c / 2 ^ 0 % 16 - 10 from if_neg (by omega)] at J63; exact J63
            · have c46 : c / 2 ^ 0 % 16 < 10 := Nat.not_le.mp (fun z => c46 ((nI_leI (a := 10) (b := c / 2 ^ 0 % 16) (by omega) (by omega)).mpr z))
              refine w_bipush (v := nI 48) d_PW_writeHex_49 (by decide) ?_
              refine w_iload_n d_PW_writeHex_51 rfl ?_
              refine w_iadd d_PW_writeHex_52 ?_
              refine w_topi (y := nI (48 + c / 2 ^ 0 % 16)) (nI_add _ _) ?_
              refine w_goto (tgt := 63) d_PW_writeHex_53 rfl ?_
              rw [show dg (c / 2 ^ 0 % 16) = 48 + c / 2 ^ 0 % 16 from if_pos c46] at J63; exact J63
          refine w_callV (as := [.int (nI (dg (c / 2 ^ 0 % 16)))]) (st := []) d_PW_writeHex_63 yM_PW_put l_PW_25 vM_PW_put kp5 rfl rfl rfl rfl (m_PW_put w5) (by decide) (by decide) (by decide) (by decide) (Nat.le_of_ble_eq_true rfl) ?_
          rintro _ h6 ⟨rfl, w6, o6⟩
          refine w_eq (st' := []) rfl ?_
          have kp6 := w6.1
          refine w_iinc (v := (-4)) d_PW_writeHex_66 rfl (by decide) (by decide) ?_
          refine w_pl (pl' := [some (.ref p), some (.int (nI c)), some (.int ((-4))), some (.int (nI (c / 2 ^ 0 % 16)))]) rfl ?_
          refine w_goto (tgt := 21) d_PW_writeHex_69 rfl ?_
          refine w_iload_n d_PW_writeHex_21 rfl ?_
          refine w_if_lt (tgt := 72) d_PW_writeHex_22 rfl (fun _ => ?_) (fun z => absurd (by decide) z)
          refine w_aload_n d_PW_writeHex_72 rfl rfl ?_
          refine w_bipush (v := nI 125) d_PW_writeHex_73 (by decide) ?_
          refine w_callV (as := [.int (nI 125)]) (st := []) d_PW_writeHex_75 yM_PW_put l_PW_25 vM_PW_put kp6 rfl rfl rfl rfl (m_PW_put w6) (by decide) (by decide) (by decide) (by decide) (Nat.le_of_ble_eq_true rfl) ?_
          rintro _ h7 ⟨rfl, w7, o7⟩
          refine w_eq (st' := []) rfl ?_
          have kp7 := w7.1
          rw [← hEN]
          refine w_vret d_PW_writeHex_78 rfl ?_
          have hxe : hx c = [dg (c / 2 ^ 8 % 16), dg (c / 2 ^ 4 % 16), dg (c / 2 ^ 0 % 16)] := by unfold hx; rw [if_neg (fun q => q z20), if_neg (fun q => q z16), if_neg (fun q => q z12), if_pos z8]
          refine ⟨rfl, ?_, ((((((o1.tr o2).tr o3).tr o4).tr o5).tr o6).tr o7)⟩
          rw [hxe]
          have q := w7
          simp only [List.append_assoc, List.cons_append, List.nil_append] at q ⊢
          exact q
        · have z8 : c / 2 ^ 8 = 0 := by
            rcases Nat.eq_zero_or_pos (c / 2 ^ 8) with z | z
            · exact z
            · exact absurd c28 (nI_ne0 z (by omega))
          refine w_iload_n d_PW_writeHex_31 rfl ?_
          refine w_if_ne (tgt := 66) d_PW_writeHex_32 rfl (fun _ => ?_) (fun z => absurd z (by decide))
          refine w_iinc (v := nI 4) d_PW_writeHex_66 rfl (by decide) (by decide) ?_
          refine w_pl (pl' := [some (.ref p), some (.int (nI c)), some (.int (nI 4)), none]) rfl ?_
          refine w_goto (tgt := 21) d_PW_writeHex_69 rfl ?_
          refine w_iload_n d_PW_writeHex_21 rfl ?_
          refine w_if_lt (tgt := 72) d_PW_writeHex_22 rfl (fun z => absurd z (by decide)) (fun _ => ?_)
          refine w_iload_n d_PW_writeHex_25 rfl ?_
          refine w_iload_n d_PW_writeHex_26 rfl ?_
          refine w_ishr d_PW_writeHex_27 ?_
          refine w_topi (y := nI (c / 2 ^ 4)) (pk_shrN (by omega) _ 4 (by decide)) ?_
          refine w_if_ne (tgt := 35) d_PW_writeHex_28 rfl (fun c28 => ?_) (fun c28 => ?_)
          · have z4 : ¬ c / 2 ^ 4 = 0 := fun z => c28 (by rw [z]; decide)
            refine w_iload_n d_PW_writeHex_35 rfl ?_
            refine w_iload_n d_PW_writeHex_36 rfl ?_
            refine w_ishr d_PW_writeHex_37 ?_
            refine w_topi (y := nI (c / 2 ^ 4)) (pk_shrN (by omega) _ 4 (by decide)) ?_
            refine w_bipush (v := nI 15) d_PW_writeHex_38 (by decide) ?_
            refine w_iand d_PW_writeHex_40 ?_
            refine w_topi (y := nI (c / 2 ^ 4 % 16)) (pk_andN (m := nI 15) (by omega) 4 (by decide)) ?_
            refine w_istore_n d_PW_writeHex_41 (by decide) ?_
            refine w_pl (pl' := [some (.ref p), some (.int (nI c)), some (.int (nI 4)), some (.int (nI (c / 2 ^ 4 % 16)))]) rfl ?_
            refine w_aload_n d_PW_writeHex_42 rfl rfl ?_
            refine w_iload_n d_PW_writeHex_43 rfl ?_
            refine w_bipush (v := nI 10) d_PW_writeHex_44 (by decide) ?_
            suffices J63 : WP X M_PW_writeHex (wR 2 0 0) 0 EN 0 0 63 [some (.ref p), some (.int (nI c)), some (.int (nI 4)), some (.int (nI (c / 2 ^ 4 % 16)))] [.int (nI (dg (c / 2 ^ 4 % 16))), .ref p] h3 by
              refine w_icmp_ge (tgt := 56) d_PW_writeHex_46 rfl (fun c46 => ?_) (fun c46 => ?_)
              · have c46 := (nI_leI (a := 10) (b := c / 2 ^ 4 % 16) (by omega) (by omega)).mp c46
                refine w_bipush (v := nI 97) d_PW_writeHex_56 (by decide) ?_
                refine w_iload_n d_PW_writeHex_58 rfl ?_
                refine w_iadd d_PW_writeHex_59 ?_
                refine w_topi (y := nI (97 + c / 2 ^ 4 % 16)) (nI_add _ _) ?_
                refine w_bipush (v := nI 10) d_PW_writeHex_60 (by decide) ?_
                refine w_isub d_PW_writeHex_62 ?_
                refine w_topi (y := nI (97 + c / 2 ^ 4 % 16 - 10)) (pk_sub (by omega)) ?_
                rw [show dg (c / 2 ^ 4 % 16) = 97 + c / 2 ^ 4 % 16 - 10 from if_neg (by omega)] at J63; exact J63
              · have c46 : c / 2 ^ 4 % 16 < 10 := Nat.not_le.mp (fun z => c46 ((nI_leI (a := 10) (b := c / 2 ^ 4 % 16) (by omega) (by omega)).mpr z))
                refine w_bipush (v := nI 48) d_PW_writeHex_49 (by decide) ?_
                refine w_iload_n d_PW_writeHex_51 rfl ?_
                refine w_iadd d_PW_writeHex_52 ?_
                refine w_topi (y := nI (48 + c / 2 ^ 4 % 16)) (nI_add _ _) ?_
                refine w_goto (tgt := 63) d_PW_writeHex_53 rfl ?_
                rw [show dg (c / 2 ^ 4 % 16) = 48 + c / 2 ^ 4 % 16 from if_pos c46] at J63; exact J63
            refine w_callV (as := [.int (nI (dg (c / 2 ^ 4 % 16)))]) (st := []) d_PW_writeHex_63 yM_PW_put l_PW_25 vM_PW_put kp3 rfl rfl rfl rfl (m_PW_put w3) (by decide) (by decide) (by decide) (by decide) (Nat.le_of_ble_eq_true rfl) ?_
            rintro _ h4 ⟨rfl, w4, o4⟩
            refine w_eq (st' := []) rfl ?_
            have kp4 := w4.1
            refine w_iinc (v := nI 0) d_PW_writeHex_66 rfl (by decide) (by decide) ?_
            refine w_pl (pl' := [some (.ref p), some (.int (nI c)), some (.int (nI 0)), some (.int (nI (c / 2 ^ 4 % 16)))]) rfl ?_
            refine w_goto (tgt := 21) d_PW_writeHex_69 rfl ?_
            refine w_iload_n d_PW_writeHex_21 rfl ?_
            refine w_if_lt (tgt := 72) d_PW_writeHex_22 rfl (fun z => absurd z (by decide)) (fun _ => ?_)
            refine w_iload_n d_PW_writeHex_25 rfl ?_
            refine w_iload_n d_PW_writeHex_26 rfl ?_
            refine w_ishr d_PW_writeHex_27 ?_
            refine w_topi (y := nI (c / 2 ^ 0)) (pk_shrN (by omega) _ 0 (by decide)) ?_
            refine w_if_ne (tgt := 35) d_PW_writeHex_28 rfl (fun _ => ?_) (fun z => absurd z (nI_ne0 (by omega) (by omega)))
            refine w_iload_n d_PW_writeHex_35 rfl ?_
            refine w_iload_n d_PW_writeHex_36 rfl ?_
            refine w_ishr d_PW_writeHex_37 ?_
            refine w_topi (y := nI (c / 2 ^ 0)) (pk_shrN (by omega) _ 0 (by decide)) ?_
            refine w_bipush (v := nI 15) d_PW_writeHex_38 (by decide) ?_
            refine w_iand d_PW_writeHex_40 ?_
            refine w_topi (y := nI (c / 2 ^ 0 % 16)) (pk_andN (m := nI 15) (by omega) 4 (by decide)) ?_
            refine w_istore_n d_PW_writeHex_41 (by decide) ?_
            refine w_pl (pl' := [some (.ref p), some (.int (nI c)), some (.int (nI 0)), some (.int (nI (c / 2 ^ 0 % 16)))]) rfl ?_
            refine w_aload_n d_PW_writeHex_42 rfl rfl ?_
            refine w_iload_n d_PW_writeHex_43 rfl ?_
            refine w_bipush (v := nI 10) d_PW_writeHex_44 (by decide) ?_
            suffices J63 : WP X M_PW_writeHex (wR 2 0 0) 0 EN 0 0 63 [some (.ref p), some (.int (nI c)), some (.int (nI 0)), some (.int (nI (c / 2 ^ 0 % 16)))] [.int (nI (dg (c / 2 ^ 0 % 16))), .ref p] h4 by
              refine w_icmp_ge (tgt := 56) d_PW_writeHex_46 rfl (fun c46 => ?_) (fun c46 => ?_)
              · have c46 := (nI_leI (a := 10) (b := c / 2 ^ 0 % 16) (by omega) (by omega)).mp c46
                refine w_bipush (v := nI 97) d_PW_writeHex_56 (by decide) ?_
                refine w_iload_n d_PW_writeHex_58 rfl ?_
                refine w_iadd d_PW_writeHex_59 ?_
                refine w_topi (y := nI (97 + c / 2 ^ 0 % 16)) (nI_add _ _) ?_
                refine w_bipush (v := nI 10) d_PW_writeHex_60 (by decide) ?_
                refine w_isub d_PW_writeHex_62 ?_
                refine w_topi (y := nI (97 + c / 2 ^ 0 % 16 - 10)) (pk_sub (by omega)) ?_
                rw [show dg (c / 2 ^ 0 % 16) = 97 + c / 2 ^ 0 % 16 - 10 from if_neg (by omega)] at J63; exact J63
              · have c46 : c / 2 ^ 0 % 16 < 10 := Nat.not_le.mp (fun z => c46 ((nI_leI (a := 10) (b := c / 2 ^ 0 % 16) (by omega) (by omega)).mpr z))
                refine w_bipush (v := nI 48) d_PW_writeHex_49 (by decide) ?_
                refine w_iload_n d_PW_writeHex_51 rfl ?_
                refine w_iadd d_PW_writeHex_52 ?_
                refine w_topi (y := nI (48 + c / 2 ^ 0 % 16)) (nI_add _ _) ?_
                refine w_goto (tgt := 63) d_PW_writeHex_53 rfl ?_
                rw [show dg (c / 2 ^ 0 % 16) = 48 + c / 2 ^ 0 % 16 from if_pos c46] at J63; exact J63
            refine w_callV (as := [.int (nI (dg (c / 2 ^ 0 % 16)))]) (st := []) d_PW_writeHex_63 yM_PW_put l_PW_25 vM_PW_put kp4 rfl rfl rfl rfl (m_PW_put w4) (by decide) (by decide) (by decide) (by decide) (Nat.le_of_ble_eq_true rfl) ?_
            rintro _ h5 ⟨rfl, w5, o5⟩
            refine w_eq (st' := []) rfl ?_
            have kp5 := w5.1
            refine w_iinc (v := (-4)) d_PW_writeHex_66 rfl (by decide) (by decide) ?_
            refine w_pl (pl' := [some (.ref p), some (.int (nI c)), some (.int ((-4))), some (.int (nI (c / 2 ^ 0 % 16)))]) rfl ?_
            refine w_goto (tgt := 21) d_PW_writeHex_69 rfl ?_
            refine w_iload_n d_PW_writeHex_21 rfl ?_
            refine w_if_lt (tgt := 72) d_PW_writeHex_22 rfl (fun _ => ?_) (fun z => absurd (by decide) z)
            refine w_aload_n d_PW_writeHex_72 rfl rfl ?_
            refine w_bipush (v := nI 125) d_PW_writeHex_73 (by decide) ?_
            refine w_callV (as := [.int (nI 125)]) (st := []) d_PW_writeHex_75 yM_PW_put l_PW_25 vM_PW_put kp5 rfl rfl rfl rfl (m_PW_put w5) (by decide) (by decide) (by decide) (by decide) (Nat.le_of_ble_eq_true rfl) ?_
            rintro _ h6 ⟨rfl, w6, o6⟩
            refine w_eq (st' := []) rfl ?_
            have kp6 := w6.1
            rw [← hEN]
            refine w_vret d_PW_writeHex_78 rfl ?_
            have hxe : hx c = [dg (c / 2 ^ 4 % 16), dg (c / 2 ^ 0 % 16)] := by unfold hx; rw [if_neg (fun q => q z20), if_neg (fun q => q z16), if_neg (fun q => q z12), if_neg (fun q => q z8), if_pos z4]
            refine ⟨rfl, ?_, (((((o1.tr o2).tr o3).tr o4).tr o5).tr o6)⟩
            rw [hxe]
            have q := w6
            simp only [List.append_assoc, List.cons_append, List.nil_append] at q ⊢
            exact q
          · have z4 : c / 2 ^ 4 = 0 := by
              rcases Nat.eq_zero_or_pos (c / 2 ^ 4) with z | z
              · exact z
              · exact absurd c28 (nI_ne0 z (by omega))
            refine w_iload_n d_PW_writeHex_31 rfl ?_
            refine w_if_ne (tgt := 66) d_PW_writeHex_32 rfl (fun _ => ?_) (fun z => absurd z (by decide))
            refine w_iinc (v := nI 0) d_PW_writeHex_66 rfl (by decide) (by decide) ?_
            refine w_pl (pl' := [some (.ref p), some (.int (nI c)), some (.int (nI 0)), none]) rfl ?_
            refine w_goto (tgt := 21) d_PW_writeHex_69 rfl ?_
            refine w_iload_n d_PW_writeHex_21 rfl ?_
            refine w_if_lt (tgt := 72) d_PW_writeHex_22 rfl (fun z => absurd z (by decide)) (fun _ => ?_)
            refine w_iload_n d_PW_writeHex_25 rfl ?_
            refine w_iload_n d_PW_writeHex_26 rfl ?_
            refine w_ishr d_PW_writeHex_27 ?_
            refine w_topi (y := nI (c / 2 ^ 0)) (pk_shrN (by omega) _ 0 (by decide)) ?_
            refine w_if_ne (tgt := 35) d_PW_writeHex_28 rfl (fun c28 => ?_) (fun c28 => ?_)
            · have z0 : ¬ c / 2 ^ 0 = 0 := fun z => c28 (by rw [z]; decide)
              refine w_iload_n d_PW_writeHex_35 rfl ?_
              refine w_iload_n d_PW_writeHex_36 rfl ?_
              refine w_ishr d_PW_writeHex_37 ?_
              refine w_topi (y := nI (c / 2 ^ 0)) (pk_shrN (by omega) _ 0 (by decide)) ?_
              refine w_bipush (v := nI 15) d_PW_writeHex_38 (by decide) ?_
              refine w_iand d_PW_writeHex_40 ?_
              refine w_topi (y := nI (c / 2 ^ 0 % 16)) (pk_andN (m := nI 15) (by omega) 4 (by decide)) ?_
              refine w_istore_n d_PW_writeHex_41 (by decide) ?_
              refine w_pl (pl' := [some (.ref p), some (.int (nI c)), some (.int (nI 0)), some (.int (nI (c / 2 ^ 0 % 16)))]) rfl ?_
              refine w_aload_n d_PW_writeHex_42 rfl rfl ?_
              refine w_iload_n d_PW_writeHex_43 rfl ?_
              refine w_bipush (v := nI 10) d_PW_writeHex_44 (by decide) ?_
              suffices J63 : WP X M_PW_writeHex (wR 2 0 0) 0 EN 0 0 63 [some (.ref p), some (.int (nI c)), some (.int (nI 0)), some (.int (nI (c / 2 ^ 0 % 16)))] [.int (nI (dg (c / 2 ^ 0 % 16))), .ref p] h3 by
                refine w_icmp_ge (tgt := 56) d_PW_writeHex_46 rfl (fun c46 => ?_) (fun c46 => ?_)
                · have c46 := (nI_leI (a := 10) (b := c / 2 ^ 0 % 16) (by omega) (by omega)).mp c46
                  refine w_bipush (v := nI 97) d_PW_writeHex_56 (by decide) ?_
                  refine w_iload_n d_PW_writeHex_58 rfl ?_
                  refine w_iadd d_PW_writeHex_59 ?_
                  refine w_topi (y := nI (97 + c / 2 ^ 0 % 16)) (nI_add _ _) ?_
                  refine w_bipush (v := nI 10) d_PW_writeHex_60 (by decide) ?_
                  refine w_isub d_PW_writeHex_62 ?_
                  refine w_topi (y := nI (97 + c / 2 ^ 0 % 16 - 10)) (pk_sub (by omega)) ?_
                  rw [show dg (c / 2 ^ 0 % 16) = 97 + c / 2 ^ 0 % 16 - 10 from if_neg (by omega)] at J63; exact J63
                · have c46 : c / 2 ^ 0 % 16 < 10 := Nat.not_le.mp (fun z => c46 ((nI_leI (a := 10) (b := c / 2 ^ 0 % 16) (by omega) (by omega)).mpr z))
                  refine w_bipush (v := nI 48) d_PW_writeHex_49 (by decide) ?_
                  refine w_iload_n d_PW_writeHex_51 rfl ?_
                  refine w_iadd d_PW_writeHex_52 ?_
                  refine w_topi (y := nI (48 + c / 2 ^ 0 % 16)) (nI_add _ _) ?_
                  refine w_goto (tgt := 63) d_PW_writeHex_53 rfl ?_
                  rw [show dg (c / 2 ^ 0 % 16) = 48 + c / 2 ^ 0 % 16 from if_pos c46] at J63; exact J63
              refine w_callV (as := [.int (nI (dg (c / 2 ^ 0 % 16)))]) (st := []) d_PW_writeHex_63 yM_PW_put l_PW_25 vM_PW_put kp3 rfl rfl rfl rfl (m_PW_put w3) (by decide) (by decide) (by decide) (by decide) (Nat.le_of_ble_eq_true rfl) ?_
              rintro _ h4 ⟨rfl, w4, o4⟩
              refine w_eq (st' := []) rfl ?_
              have kp4 := w4.1
              refine w_iinc (v := (-4)) d_PW_writeHex_66 rfl (by decide) (by decide) ?_
              refine w_pl (pl' := [some (.ref p), some (.int (nI c)), some (.int ((-4))), some (.int (nI (c / 2 ^ 0 % 16)))]) rfl ?_
              refine w_goto (tgt := 21) d_PW_writeHex_69 rfl ?_
              refine w_iload_n d_PW_writeHex_21 rfl ?_
              refine w_if_lt (tgt := 72) d_PW_writeHex_22 rfl (fun _ => ?_) (fun z => absurd (by decide) z)
              refine w_aload_n d_PW_writeHex_72 rfl rfl ?_
              refine w_bipush (v := nI 125) d_PW_writeHex_73 (by decide) ?_
              refine w_callV (as := [.int (nI 125)]) (st := []) d_PW_writeHex_75 yM_PW_put l_PW_25 vM_PW_put kp4 rfl rfl rfl rfl (m_PW_put w4) (by decide) (by decide) (by decide) (by decide) (Nat.le_of_ble_eq_true rfl) ?_
              rintro _ h5 ⟨rfl, w5, o5⟩
              refine w_eq (st' := []) rfl ?_
              have kp5 := w5.1
              rw [← hEN]
              refine w_vret d_PW_writeHex_78 rfl ?_
              have hxe : hx c = [dg (c / 2 ^ 0 % 16)] := by unfold hx; rw [if_neg (fun q => q z20), if_neg (fun q => q z16), if_neg (fun q => q z12), if_neg (fun q => q z8), if_neg (fun q => q z4)]
              refine ⟨rfl, ?_, ((((o1.tr o2).tr o3).tr o4).tr o5)⟩
              rw [hxe]
              have q := w5
              simp only [List.append_assoc, List.cons_append, List.nil_append] at q ⊢
              exact q
            · have z0 : c / 2 ^ 0 = 0 := by
                rcases Nat.eq_zero_or_pos (c / 2 ^ 0) with z | z
                · exact z
                · exact absurd c28 (nI_ne0 z (by omega))
              refine w_iload_n d_PW_writeHex_31 rfl ?_
              refine w_if_ne (tgt := 66) d_PW_writeHex_32 rfl (fun z => absurd (by decide) z) (fun _ => ?_)
              refine w_iload_n d_PW_writeHex_35 rfl ?_
              refine w_iload_n d_PW_writeHex_36 rfl ?_
              refine w_ishr d_PW_writeHex_37 ?_
              refine w_topi (y := nI (c / 2 ^ 0)) (pk_shrN (by omega) _ 0 (by decide)) ?_
              refine w_bipush (v := nI 15) d_PW_writeHex_38 (by decide) ?_
              refine w_iand d_PW_writeHex_40 ?_
              refine w_topi (y := nI (c / 2 ^ 0 % 16)) (pk_andN (m := nI 15) (by omega) 4 (by decide)) ?_
              refine w_istore_n d_PW_writeHex_41 (by decide) ?_
              refine w_pl (pl' := [some (.ref p), some (.int (nI c)), some (.int (nI 0)), some (.int (nI (c / 2 ^ 0 % 16)))]) rfl ?_
              refine w_aload_n d_PW_writeHex_42 rfl rfl ?_
              refine w_iload_n d_PW_writeHex_43 rfl ?_
              refine w_bipush (v := nI 10) d_PW_writeHex_44 (by decide) ?_
              suffices J63 : WP X M_PW_writeHex (wR 2 0 0) 0 EN 0 0 63 [some (.ref p), some (.int (nI c)), some (.int (nI 0)), some (.int (nI (c / 2 ^ 0 % 16)))] [.int (nI (dg (c / 2 ^ 0 % 16))), .ref p] h3 by
                refine w_icmp_ge (tgt := 56) d_PW_writeHex_46 rfl (fun c46 => ?_) (fun c46 => ?_)
                · have c46 := (nI_leI (a := 10) (b := c / 2 ^ 0 % 16) (by omega) (by omega)).mp c46
                  refine w_bipush (v := nI 97) d_PW_writeHex_56 (by decide) ?_
                  refine w_iload_n d_PW_writeHex_58 rfl ?_
                  refine w_iadd d_PW_writeHex_59 ?_
                  refine w_topi (y := nI (97 + c / 2 ^ 0 % 16)) (nI_add _ _) ?_
                  refine w_bipush (v := nI 10) d_PW_writeHex_60 (by decide) ?_
                  refine w_isub d_PW_writeHex_62 ?_
                  refine w_topi (y := nI (97 + c / 2 ^ 0 % 16 - 10)) (pk_sub (by omega)) ?_
                  rw [show dg (c / 2 ^ 0 % 16) = 97 + c / 2 ^ 0 % 16 - 10 from if_neg (by omega)] at J63; exact J63
                · have c46 : c / 2 ^ 0 % 16 < 10 := Nat.not_le.mp (fun z => c46 ((nI_leI (a := 10) (b := c / 2 ^ 0 % 16) (by omega) (by omega)).mpr z))
                  refine w_bipush (v := nI 48) d_PW_writeHex_49 (by decide) ?_
                  refine w_iload_n d_PW_writeHex_51 rfl ?_
                  refine w_iadd d_PW_writeHex_52 ?_
                  refine w_topi (y := nI (48 + c / 2 ^ 0 % 16)) (nI_add _ _) ?_
                  refine w_goto (tgt := 63) d_PW_writeHex_53 rfl ?_
                  rw [show dg (c / 2 ^ 0 % 16) = 48 + c / 2 ^ 0 % 16 from if_pos c46] at J63; exact J63
              refine w_callV (as := [.int (nI (dg (c / 2 ^ 0 % 16)))]) (st := []) d_PW_writeHex_63 yM_PW_put l_PW_25 vM_PW_put kp3 rfl rfl rfl rfl (m_PW_put w3) (by decide) (by decide) (by decide) (by decide) (Nat.le_of_ble_eq_true rfl) ?_
              rintro _ h4 ⟨rfl, w4, o4⟩
              refine w_eq (st' := []) rfl ?_
              have kp4 := w4.1
              refine w_iinc (v := (-4)) d_PW_writeHex_66 rfl (by decide) (by decide) ?_
              refine w_pl (pl' := [some (.ref p), some (.int (nI c)), some (.int ((-4))), some (.int (nI (c / 2 ^ 0 % 16)))]) rfl ?_
              refine w_goto (tgt := 21) d_PW_writeHex_69 rfl ?_
              refine w_iload_n d_PW_writeHex_21 rfl ?_
              refine w_if_lt (tgt := 72) d_PW_writeHex_22 rfl (fun _ => ?_) (fun z => absurd (by decide) z)
              refine w_aload_n d_PW_writeHex_72 rfl rfl ?_
              refine w_bipush (v := nI 125) d_PW_writeHex_73 (by decide) ?_
              refine w_callV (as := [.int (nI 125)]) (st := []) d_PW_writeHex_75 yM_PW_put l_PW_25 vM_PW_put kp4 rfl rfl rfl rfl (m_PW_put w4) (by decide) (by decide) (by decide) (by decide) (Nat.le_of_ble_eq_true rfl) ?_
              rintro _ h5 ⟨rfl, w5, o5⟩
              refine w_eq (st' := []) rfl ?_
              have kp5 := w5.1
              rw [← hEN]
              refine w_vret d_PW_writeHex_78 rfl ?_
              have hxe : hx c = [dg (c / 2 ^ 0 % 16)] := by unfold hx; rw [if_neg (fun q => q z20), if_neg (fun q => q z16), if_neg (fun q => q z12), if_neg (fun q => q z8), if_neg (fun q => q z4)]
              refine ⟨rfl, ?_, ((((o1.tr o2).tr o3).tr o4).tr o5)⟩
              rw [hxe]
              have q := w5
              simp only [List.append_assoc, List.cons_append, List.nil_append] at q ⊢
              exact q
set_option maxHeartbeats 4000000 in
set_option maxRecDepth 100000 in
theorem m_PW_writeCode {h : wH} {p c : Nat} {o : List Nat} (hw : hPW h p o) (hc : c < 2 ^ 24) : PM X M_PW_writeCode 3 0 0 [.ref p, .int (nI c)] h (fun r h' => r = none ∧ hPW h' p (o ++ cT c) ∧ wOff h h' p 3) := by
  have hw0 := hw
  have kp := hw.1
  refine PM.at (pl := [some (.ref p), some (.int (nI c))]) rfl rfl (by simp [wle, wen]) ?_
  generalize hEN : wEm X 0 0 _ = EN
  refine w_iload_n d_PW_writeCode_0 rfl ?_
  refine w_bipush (v := nI 33) d_PW_writeCode_1 (by decide) ?_
  suffices J12 : (c < 33 ∨ 126 < c) → WP X M_PW_writeCode (wR 3 0 0) 0 EN 0 0 12 [some (.ref p), some (.int (nI c))] [] h by
    refine w_icmp_lt (tgt := 12) d_PW_writeCode_3 rfl (fun c3 => ?_) (fun c3 => ?_)
    · have c3 := (nI_ltI (a := c) (b := 33) (by omega) (by decide)).mp c3
      exact J12 (Or.inl c3)
    · have c3 : ¬ c < 33 := fun z => c3 ((nI_ltI (a := c) (b := 33) (by omega) (by decide)).mpr z)
      refine w_iload_n d_PW_writeCode_6 rfl ?_
      refine w_bipush (v := nI 126) d_PW_writeCode_7 (by decide) ?_
      refine w_icmp_le (tgt := 18) d_PW_writeCode_9 rfl (fun c9 => ?_) (fun c9 => ?_)
      · have c9 := (nI_leI (a := c) (b := 126) (by omega) (by decide)).mp c9
        refine w_iload_n d_PW_writeCode_18 rfl ?_
        refine w_callS (as := [.int (nI c)]) (st := []) d_PW_writeCode_19 yM_PW_isSign l_PW_64 sM_PW_isSign rfl rfl (m_PW_isSign (by omega)) (by decide) (by decide) (by decide) (by decide) (Nat.le_of_ble_eq_true rfl) ?_
        rintro _ h9_1 ⟨rfl, e9_1⟩
        rw [e9_1]
        refine w_eq (st' := [.int (bI (sgn c))]) rfl ?_
        refine w_if_eq (tgt := 31) d_PW_writeCode_22 rfl (fun c22 => ?_) (fun c22 => ?_)
        · have c22 := bI_f c22
          refine w_aload_n d_PW_writeCode_31 rfl rfl ?_
          refine w_iload_n d_PW_writeCode_32 rfl ?_
          refine w_callV (as := [.int (nI c)]) (st := []) d_PW_writeCode_33 yM_PW_put l_PW_25 vM_PW_put kp rfl rfl rfl rfl (m_PW_put hw0) (by decide) (by decide) (by decide) (by decide) (Nat.le_of_ble_eq_true rfl) ?_
          rintro _ h1 ⟨rfl, w1, o1⟩
          refine w_eq (st' := []) rfl ?_
          have kp1 := w1.1
          rw [← hEN]
          refine w_vret d_PW_writeCode_36 rfl ?_
          unfold cT
          rw [if_neg (by omega)]
          first
            | (rw [if_neg (by rw [c22]; decide)]; exact ⟨rfl, w1, o1⟩)
            | (rw [if_pos c22]; exact ⟨rfl, by rw [List.append_assoc] at w2; exact w2, o1.tr o2⟩)
        · have c22 := bI_t c22
          refine w_aload_n d_PW_writeCode_25 rfl rfl ?_
          refine w_bipush (v := nI 92) d_PW_writeCode_26 (by decide) ?_
          refine w_callV (as := [.int (nI 92)]) (st := []) d_PW_writeCode_28 yM_PW_put l_PW_25 vM_PW_put kp rfl rfl rfl rfl (m_PW_put hw0) (by decide) (by decide) (by decide) (by decide) (Nat.le_of_ble_eq_true rfl) ?_
          rintro _ h1 ⟨rfl, w1, o1⟩
          refine w_eq (st' := []) rfl ?_
          have kp1 := w1.1
          refine w_aload_n d_PW_writeCode_31 rfl rfl ?_
          refine w_iload_n d_PW_writeCode_32 rfl ?_
          refine w_callV (as := [.int (nI c)]) (st := []) d_PW_writeCode_33 yM_PW_put l_PW_25 vM_PW_put kp1 rfl rfl rfl rfl (m_PW_put w1) (by decide) (by decide) (by decide) (by decide) (Nat.le_of_ble_eq_true rfl) ?_
          rintro _ h2 ⟨rfl, w2, o2⟩
          refine w_eq (st' := []) rfl ?_
          have kp2 := w2.1
          rw [← hEN]
          refine w_vret d_PW_writeCode_36 rfl ?_
          unfold cT
          rw [if_neg (by omega)]
          first
            | (rw [if_neg (by rw [c22]; decide)]; exact ⟨rfl, w1, o1⟩)
            | (rw [if_pos c22]; exact ⟨rfl, by rw [List.append_assoc] at w2; exact w2, o1.tr o2⟩)
      · have c9 : 126 < c := Nat.not_le.mp (fun z => c9 ((nI_leI (a := c) (b := 126) (by omega) (by decide)).mpr z))
        exact J12 (Or.inr c9)
  intro hcc
  refine w_aload_n d_PW_writeCode_12 rfl rfl ?_
  refine w_iload_n d_PW_writeCode_13 rfl ?_
  refine w_callV (as := [.int (nI c)]) (st := []) d_PW_writeCode_14 yM_PW_writeHex l_PW_61 vM_PW_writeHex kp rfl rfl rfl rfl (m_PW_writeHex hw0 hc) (by decide) (by decide) (by decide) (by decide) (Nat.le_of_ble_eq_true rfl) ?_
  rintro _ h1 ⟨rfl, w1, o1⟩
  refine w_eq (st' := []) rfl ?_
  rw [← hEN]
  refine w_vret d_PW_writeCode_17 rfl ?_
  unfold cT
  rw [if_pos hcc]
  exact ⟨rfl, w1, o1⟩
set_option maxHeartbeats 4000000 in
set_option maxRecDepth 100000 in
theorem m_PW_writeRange {h : wH} {p a b : Nat} {o : List Nat} (hw : hPW h p o) (ha : a < 2 ^ 24) (hb : b < 2 ^ 24) : PM X M_PW_writeRange 4 0 0 [.ref p, .int (nI a), .int (nI b)] h (fun r h' => r = none ∧ hPW h' p (o ++ rT a b) ∧ wOff h h' p 3) := by
  have hw0 := hw
  have kp := hw.1
  refine PM.at (pl := [some (.ref p), some (.int (nI a)), some (.int (nI b))]) rfl rfl (by simp [wle, wen]) ?_
  generalize hEN : wEm X 0 0 _ = EN
  refine w_aload_n d_PW_writeRange_0 rfl rfl ?_
  refine w_iload_n d_PW_writeRange_1 rfl ?_
  refine w_callV (as := [.int (nI a)]) (st := []) d_PW_writeRange_2 yM_PW_writeCode l_PW_54 vM_PW_writeCode kp rfl rfl rfl rfl (m_PW_writeCode hw0 (by omega)) (by decide) (by decide) (by decide) (by decide) (Nat.le_of_ble_eq_true rfl) ?_
  rintro _ h1 ⟨rfl, w1, o1⟩
  refine w_eq (st' := []) rfl ?_
  have kp1 := w1.1
  refine w_iload_n d_PW_writeRange_5 rfl ?_
  refine w_iload_n d_PW_writeRange_6 rfl ?_
  refine w_icmp_ne (tgt := 11) d_PW_writeRange_7 rfl (fun c7 => ?_) (fun c7 => ?_)
  · have c7 : ¬ b = a := fun z => c7 (by rw [z])
    refine w_iload_n d_PW_writeRange_11 rfl ?_
    refine w_iload_n d_PW_writeRange_12 rfl ?_
    refine w_iconst (v := nI 1) d_PW_writeRange_13 (by decide) ?_
    refine w_iadd d_PW_writeRange_14 ?_
    refine w_topi (y := nI (a + 1)) (nI_add _ _) ?_
    refine w_icmp_le (tgt := 24) d_PW_writeRange_15 rfl (fun c15 => ?_) (fun c15 => ?_)
    · have c15 := (nI_leI (a := b) (b := a + 1) (by omega) (by omega)).mp c15
      refine w_aload_n d_PW_writeRange_24 rfl rfl ?_
      refine w_iload_n d_PW_writeRange_25 rfl ?_
      refine w_callV (as := [.int (nI b)]) (st := []) d_PW_writeRange_26 yM_PW_writeCode l_PW_54 vM_PW_writeCode kp1 rfl rfl rfl rfl (m_PW_writeCode w1 (by omega)) (by decide) (by decide) (by decide) (by decide) (Nat.le_of_ble_eq_true rfl) ?_
      rintro _ h2 ⟨rfl, w2, o2⟩
      refine w_eq (st' := []) rfl ?_
      have kp2 := w2.1
      rw [← hEN]
      refine w_vret d_PW_writeRange_29 rfl ?_
      unfold rT
      rw [if_neg c7]
      first
        | (rw [if_pos c15]; refine ⟨rfl, ?_, (o1.tr o2).tr o3⟩; simp only [List.append_assoc] at w3 ⊢; exact w3)
        | (rw [if_neg (by omega)]; refine ⟨rfl, ?_, o1.tr o2⟩; simp only [List.append_assoc, List.nil_append] at w2 ⊢; exact w2)
    · have c15 : a + 1 < b := Nat.not_le.mp (fun z => c15 ((nI_leI (a := b) (b := a + 1) (by omega) (by omega)).mpr z))
      refine w_aload_n d_PW_writeRange_18 rfl rfl ?_
      refine w_bipush (v := nI 45) d_PW_writeRange_19 (by decide) ?_
      refine w_callV (as := [.int (nI 45)]) (st := []) d_PW_writeRange_21 yM_PW_put l_PW_25 vM_PW_put kp1 rfl rfl rfl rfl (m_PW_put w1) (by decide) (by decide) (by decide) (by decide) (Nat.le_of_ble_eq_true rfl) ?_
      rintro _ h2 ⟨rfl, w2, o2⟩
      refine w_eq (st' := []) rfl ?_
      have kp2 := w2.1
      refine w_aload_n d_PW_writeRange_24 rfl rfl ?_
      refine w_iload_n d_PW_writeRange_25 rfl ?_
      refine w_callV (as := [.int (nI b)]) (st := []) d_PW_writeRange_26 yM_PW_writeCode l_PW_54 vM_PW_writeCode kp2 rfl rfl rfl rfl (m_PW_writeCode w2 (by omega)) (by decide) (by decide) (by decide) (by decide) (Nat.le_of_ble_eq_true rfl) ?_
      rintro _ h3 ⟨rfl, w3, o3⟩
      refine w_eq (st' := []) rfl ?_
      have kp3 := w3.1
      rw [← hEN]
      refine w_vret d_PW_writeRange_29 rfl ?_
      unfold rT
      rw [if_neg c7]
      first
        | (rw [if_pos c15]; refine ⟨rfl, ?_, (o1.tr o2).tr o3⟩; simp only [List.append_assoc] at w3 ⊢; exact w3)
        | (rw [if_neg (by omega)]; refine ⟨rfl, ?_, o1.tr o2⟩; simp only [List.append_assoc, List.nil_append] at w2 ⊢; exact w2)
  · have c7 : b = a := (nI_eq (by omega) (by omega)).mp c7
    rw [← hEN]
    refine w_vret d_PW_writeRange_10 rfl ?_
    unfold rT
    rw [if_pos c7, List.append_nil]
    exact ⟨rfl, w1, o1⟩
set_option maxHeartbeats 4000000 in
set_option maxRecDepth 100000 in
theorem m_PW_writeString {h : wH} {p a b t : Nat} {o : List Nat} (hw : hPW h p o) (ha : a < 1114112) (hb : b < 1114112) (ht : t ≤ 1114112) : PM X M_PW_writeString 4 0 0 [.ref p, .long (lN (kOf a b t))] h (fun r h' => r = none ∧ hPW h' p (o ++ sT (kOf a b t)) ∧ wOff h h' p 3) := by
  have hw0 := hw
  have kp := hw.1
  obtain ⟨q1, q2, q3⟩ := sOk_abc ha hb ht
  refine PM.at (pl := [some (.ref p), some (.long (lN (kOf a b t))), none, none, none]) rfl rfl (by simp [wle, wen]) ?_
  generalize hEN : wEm X 0 0 _ = EN
  refine w_aload_n d_PW_writeString_0 rfl rfl ?_
  refine w_bipush (v := nI 123) d_PW_writeString_1 (by decide) ?_
  refine w_callV (as := [.int (nI 123)]) (st := []) d_PW_writeString_3 yM_PW_put l_PW_25 vM_PW_put kp rfl rfl rfl rfl (m_PW_put hw0) (by decide) (by decide) (by decide) (by decide) (Nat.le_of_ble_eq_true rfl) ?_
  rintro _ h1 ⟨rfl, w1, o1⟩
  refine w_eq (st' := []) rfl ?_
  have kp1 := w1.1
  refine w_iconst (v := nI 0) d_PW_writeString_6 (by decide) ?_
  refine w_istore_n d_PW_writeString_7 (by decide) ?_
  refine w_pl (pl' := [some (.ref p), some (.long (lN (kOf a b t))), none, some (.int (nI 0)), none]) rfl ?_
  refine w_iload_n d_PW_writeString_8 rfl ?_
  refine w_iconst (v := nI 3) d_PW_writeString_9 (by decide) ?_
  refine w_icmp_ge (tgt := 38) d_PW_writeString_10 rfl (fun z => absurd z (by decide)) (fun _ => ?_)
  refine w_lload_n d_PW_writeString_13 rfl ?_
  refine w_iload_n d_PW_writeString_14 rfl ?_
  refine w_callS (as := [.long (lN (kOf a b t)), .int (nI 0)]) (st := []) d_PW_writeString_15 yM_MS_codeOfKey l_PW_57 sM_MS_codeOfKey rfl rfl (m_MS_codeOfKey0 ha hb ht) (by decide) (by decide) (by decide) (by decide) (Nat.le_of_ble_eq_true rfl) ?_
  rintro _ h9_1 ⟨rfl, e9_1⟩
  rw [e9_1]
  refine w_eq (st' := [.int (nI a)]) rfl ?_
  refine w_istore d_PW_writeString_18 (by decide) ?_
  refine w_pl (pl' := [some (.ref p), some (.long (lN (kOf a b t))), none, some (.int (nI 0)), some (.int (nI a))]) rfl ?_
  refine w_iload d_PW_writeString_20 rfl ?_
  refine w_iconst (v := -1) d_PW_writeString_22 (by decide) ?_
  refine w_icmp_eq (tgt := 32) d_PW_writeString_23 rfl (fun z => absurd z (nI_nm1 (by omega))) (fun _ => ?_)
  refine w_aload_n d_PW_writeString_26 rfl rfl ?_
  refine w_iload d_PW_writeString_27 rfl ?_
  refine w_callV (as := [.int (nI a)]) (st := []) d_PW_writeString_29 yM_PW_writeCode l_PW_54 vM_PW_writeCode kp1 rfl rfl rfl rfl (m_PW_writeCode w1 (by omega)) (by decide) (by decide) (by decide) (by decide) (Nat.le_of_ble_eq_true rfl) ?_
  rintro _ h2 ⟨rfl, w2, o2⟩
  refine w_eq (st' := []) rfl ?_
  have kp2 := w2.1
  refine w_iinc (v := nI 1) d_PW_writeString_32 rfl (by decide) (by decide) ?_
  refine w_pl (pl' := [some (.ref p), some (.long (lN (kOf a b t))), none, some (.int (nI 1)), some (.int (nI a))]) rfl ?_
  refine w_goto (tgt := 8) d_PW_writeString_35 rfl ?_
  refine w_iload_n d_PW_writeString_8 rfl ?_
  refine w_iconst (v := nI 3) d_PW_writeString_9 (by decide) ?_
  refine w_icmp_ge (tgt := 38) d_PW_writeString_10 rfl (fun z => absurd z (by decide)) (fun _ => ?_)
  refine w_lload_n d_PW_writeString_13 rfl ?_
  refine w_iload_n d_PW_writeString_14 rfl ?_
  refine w_callS (as := [.long (lN (kOf a b t)), .int (nI 1)]) (st := []) d_PW_writeString_15 yM_MS_codeOfKey l_PW_57 sM_MS_codeOfKey rfl rfl (m_MS_codeOfKey1 ha hb ht) (by decide) (by decide) (by decide) (by decide) (Nat.le_of_ble_eq_true rfl) ?_
  rintro _ h9_2 ⟨rfl, e9_2⟩
  rw [e9_2]
  refine w_eq (st' := [.int (nI b)]) rfl ?_
  refine w_istore d_PW_writeString_18 (by decide) ?_
  refine w_pl (pl' := [some (.ref p), some (.long (lN (kOf a b t))), none, some (.int (nI 1)), some (.int (nI b))]) rfl ?_
  refine w_iload d_PW_writeString_20 rfl ?_
  refine w_iconst (v := -1) d_PW_writeString_22 (by decide) ?_
  refine w_icmp_eq (tgt := 32) d_PW_writeString_23 rfl (fun z => absurd z (nI_nm1 (by omega))) (fun _ => ?_)
  refine w_aload_n d_PW_writeString_26 rfl rfl ?_
  refine w_iload d_PW_writeString_27 rfl ?_
  refine w_callV (as := [.int (nI b)]) (st := []) d_PW_writeString_29 yM_PW_writeCode l_PW_54 vM_PW_writeCode kp2 rfl rfl rfl rfl (m_PW_writeCode w2 (by omega)) (by decide) (by decide) (by decide) (by decide) (Nat.le_of_ble_eq_true rfl) ?_
  rintro _ h3 ⟨rfl, w3, o3⟩
  refine w_eq (st' := []) rfl ?_
  have kp3 := w3.1
  refine w_iinc (v := nI 2) d_PW_writeString_32 rfl (by decide) (by decide) ?_
  refine w_pl (pl' := [some (.ref p), some (.long (lN (kOf a b t))), none, some (.int (nI 2)), some (.int (nI b))]) rfl ?_
  refine w_goto (tgt := 8) d_PW_writeString_35 rfl ?_
  refine w_iload_n d_PW_writeString_8 rfl ?_
  refine w_iconst (v := nI 3) d_PW_writeString_9 (by decide) ?_
  refine w_icmp_ge (tgt := 38) d_PW_writeString_10 rfl (fun z => absurd z (by decide)) (fun _ => ?_)
  refine w_lload_n d_PW_writeString_13 rfl ?_
  refine w_iload_n d_PW_writeString_14 rfl ?_
  refine w_callS (as := [.long (lN (kOf a b t)), .int (nI 2)]) (st := []) d_PW_writeString_15 yM_MS_codeOfKey l_PW_57 sM_MS_codeOfKey rfl rfl (m_MS_codeOfKey2 ha hb ht) (by decide) (by decide) (by decide) (by decide) (Nat.le_of_ble_eq_true rfl) ?_
  rintro _ h9_3 ⟨rfl, e9_3⟩
  rw [e9_3]
  refine w_eq (st' := [.int (nI t - nI 1)]) rfl ?_
  refine w_istore d_PW_writeString_18 (by decide) ?_
  refine w_pl (pl' := [some (.ref p), some (.long (lN (kOf a b t))), none, some (.int (nI 2)), some (.int (nI t - nI 1))]) rfl ?_
  refine w_iload d_PW_writeString_20 rfl ?_
  refine w_iconst (v := -1) d_PW_writeString_22 (by decide) ?_
  refine w_icmp_eq (tgt := 32) d_PW_writeString_23 rfl (fun c23 => ?_) (fun c23 => ?_)
  · have c23 : t = 0 := by
      rcases Nat.eq_zero_or_pos t with z | z
      · exact z
      · rw [pk_sub z] at c23; exact absurd c23 (nI_nm1 (by omega))
    refine w_iinc (v := nI 3) d_PW_writeString_32 rfl (by decide) (by decide) ?_
    refine w_pl (pl' := [some (.ref p), some (.long (lN (kOf a b t))), none, some (.int (nI 3)), some (.int (nI t - nI 1))]) rfl ?_
    refine w_goto (tgt := 8) d_PW_writeString_35 rfl ?_
    refine w_iload_n d_PW_writeString_8 rfl ?_
    refine w_iconst (v := nI 3) d_PW_writeString_9 (by decide) ?_
    refine w_icmp_ge (tgt := 38) d_PW_writeString_10 rfl (fun _ => ?_) (fun z => absurd (by decide) z)
    refine w_aload_n d_PW_writeString_38 rfl rfl ?_
    refine w_bipush (v := nI 125) d_PW_writeString_39 (by decide) ?_
    refine w_callV (as := [.int (nI 125)]) (st := []) d_PW_writeString_41 yM_PW_put l_PW_25 vM_PW_put kp3 rfl rfl rfl rfl (m_PW_put w3) (by decide) (by decide) (by decide) (by decide) (Nat.le_of_ble_eq_true rfl) ?_
    rintro _ h4 ⟨rfl, w4, o4⟩
    refine w_eq (st' := []) rfl ?_
    have kp4 := w4.1
    rw [← hEN]
    refine w_vret d_PW_writeString_44 rfl ?_
    unfold sT
    rw [q1, q2, q3]
    first
      | (rw [if_pos c23]; refine ⟨rfl, ?_, ((o1.tr o2).tr o3).tr o4⟩; simp only [List.append_assoc, List.nil_append] at w4 ⊢; exact w4)
      | (rw [if_neg (by omega)]; refine ⟨rfl, ?_, (((o1.tr o2).tr o3).tr o4).tr o5⟩; simp only [List.append_assoc] at w5 ⊢; exact w5)
  · have c23 : 0 < t := Nat.pos_of_ne_zero (fun z => c23 (by rw [z]; decide))
    refine w_aload_n d_PW_writeString_26 rfl rfl ?_
    refine w_iload d_PW_writeString_27 rfl ?_
    refine w_topi (y := nI (t - 1)) (pk_sub c23) ?_
    refine w_callV (as := [.int (nI (t - 1))]) (st := []) d_PW_writeString_29 yM_PW_writeCode l_PW_54 vM_PW_writeCode kp3 rfl rfl rfl rfl (m_PW_writeCode w3 (by omega)) (by decide) (by decide) (by decide) (by decide) (Nat.le_of_ble_eq_true rfl) ?_
    rintro _ h4 ⟨rfl, w4, o4⟩
    refine w_eq (st' := []) rfl ?_
    have kp4 := w4.1
    refine w_iinc (v := nI 3) d_PW_writeString_32 rfl (by decide) (by decide) ?_
    refine w_pl (pl' := [some (.ref p), some (.long (lN (kOf a b t))), none, some (.int (nI 3)), some (.int (nI t - nI 1))]) rfl ?_
    refine w_goto (tgt := 8) d_PW_writeString_35 rfl ?_
    refine w_iload_n d_PW_writeString_8 rfl ?_
    refine w_iconst (v := nI 3) d_PW_writeString_9 (by decide) ?_
    refine w_icmp_ge (tgt := 38) d_PW_writeString_10 rfl (fun _ => ?_) (fun z => absurd (by decide) z)
    refine w_aload_n d_PW_writeString_38 rfl rfl ?_
    refine w_bipush (v := nI 125) d_PW_writeString_39 (by decide) ?_
    refine w_callV (as := [.int (nI 125)]) (st := []) d_PW_writeString_41 yM_PW_put l_PW_25 vM_PW_put kp4 rfl rfl rfl rfl (m_PW_put w4) (by decide) (by decide) (by decide) (by decide) (Nat.le_of_ble_eq_true rfl) ?_
    rintro _ h5 ⟨rfl, w5, o5⟩
    refine w_eq (st' := []) rfl ?_
    have kp5 := w5.1
    rw [← hEN]
    refine w_vret d_PW_writeString_44 rfl ?_
    unfold sT
    rw [q1, q2, q3]
    first
      | (rw [if_pos c23]; refine ⟨rfl, ?_, ((o1.tr o2).tr o3).tr o4⟩; simp only [List.append_assoc, List.nil_append] at w4 ⊢; exact w4)
      | (rw [if_neg (by omega)]; refine ⟨rfl, ?_, (((o1.tr o2).tr o3).tr o4).tr o5⟩; simp only [List.append_assoc] at w5 ⊢; exact w5)
end PW
end
section
/-! PatternWriter.writePattern: written by wip/gen/pw2.py -/
def eT : List Nat → List Nat
  | a :: b :: r => rT a (b - 1) ++ eT r
  | _ => []
theorem eT_short {E : List Nat} (h : E.length ≤ 1) : eT E = [] := by
  match E, h with
  | [], _ => rfl
  | [a], _ => rfl
  | a :: b :: r, h => simp at h
/-- a set as it is printed -/
def pT (E S : List Nat) : List Nat := [91] ++ (eT E ++ (S.flatMap sT ++ [93]))
theorem bI_01 (b : Bool) : bI b = 0 ∨ bI b = 1 := by cases b <;> decide
section PW2
variable {X : wX}
set_option maxHeartbeats 4000000 in
set_option maxRecDepth 100000 in
theorem m_PW_writePattern {h : wH} {p q : Nat} {o0 E S : List Nat} (hw : hPW h p o0) (hq : hMS h q E S) (hd : p + 3 ≤ q ∨ q + 3 ≤ p) (hE : eOk E) (hS : ∀ y ∈ S, sOk y) : PM X M_PW_writePattern 5 0 0 [.ref p, .ref q] h (fun r h' => r = some (.int (bI (decide ((pT E S).length ≤ 60)))) ∧ (∃ o', hPW h' p o' ∧ ((pT E S).length ≤ 60 → o' = pT E S)) ∧ wOff h h' p 3) := by
  have hw0 := hw
  obtain ⟨hp, hrow⟩ := hw
  have hpr := hrow.choose_spec.1
  have ghm := hq; obtain ⟨gf, gk, gp, ga, gb, gl1, gl2, ghf, ghk⟩ := hq
  refine PM.at (pl := [some (.ref p), some (.ref q), none]) rfl rfl (by simp [wle, wen]) ?_
  generalize hEN : wEm X 0 0 _ = EN
  have END : ∀ (o : List Nat) (h3 : wH) (z : Int32), (hPW h3 p o) → (wOff h h3 p 3) → ((o ++ [93] = pT E S) ∨ (60 < o.length ∧ 60 < (pT E S).length)) → WP X M_PW_writePattern (wR 5 0 0) 0 EN 0 0 96 [some (.ref p), some (.ref q), some (.int (z))] [] h3 := by
    intro o h3 z k3 k4 k5
    have wp := k3.1
    refine w_aload_n d_PW_writePattern_96 rfl rfl ?_
    refine w_bipush (v := nI 93) d_PW_writePattern_97 (by decide) ?_
    refine w_callV (as := [.int (nI 93)]) (st := []) d_PW_writePattern_99 yM_PW_put l_PW_25 vM_PW_put wp rfl rfl rfl rfl (m_PW_put k3) (by decide) (by decide) (by decide) (by decide) (Nat.le_of_ble_eq_true rfl) ?_
    rintro _ h4 ⟨rfl, w4, o4⟩
    refine w_eq (st' := []) rfl ?_
    have vp := w4.1
    refine w_aload_n d_PW_writePattern_102 rfl rfl ?_
    refine w_get d_PW_writePattern_103 f_PW_21 vp rfl ?_
    rw [← hEN]
    refine w_zret d_PW_writePattern_106 rfl (bI_01 _) ?_
    rcases k5 with k5 | k5
    · rw [k5] at w4 ⊢
      exact ⟨rfl, ⟨_, w4, fun _ => rfl⟩, k4.tr o4⟩
    · refine ⟨?_, ⟨_, w4, fun z => by omega⟩, k4.tr o4⟩
      rw [decide_eq_false (by rw [List.length_append]; omega), decide_eq_false (by omega)]
  have LS : ∀ (n : Nat) (j : Nat) (o : List Nat) (h3 : wH), (S.length - j < n) → (j ≤ S.length) → (hPW h3 p o) → (wOff h h3 p 3) → ((o ++ ((S.drop j).flatMap sT ++ [93]) = pT E S) ∨ (60 < o.length ∧ 60 < (pT E S).length)) → WP X M_PW_writePattern (wR 5 0 0) 0 EN 0 0 65 [some (.ref p), some (.ref q), some (.int (nI j))] [] h3 := by
    intro n
    induction n with
    | zero => intro j o h3 k1 k2 k3 k4 k5; omega
    | succ n ih =>
      intro j o h3 k1 k2 k3 k4 k5
      have wp := k3.1
      obtain ⟨qf, qk, qp, qa, qb, ql1, ql2, qhf, qhk⟩ := ghm.off k4 (by omega)
      refine w_iload_n d_PW_writePattern_65 rfl ?_
      refine w_aload_n d_PW_writePattern_66 rfl rfl ?_
      refine w_get d_PW_writePattern_67 f_PW_43 qp rfl ?_
      refine w_icmp_ge (tgt := 96) d_PW_writePattern_70 rfl (fun c70 => ?_) (fun c70 => ?_)
      · have c70 := (nI_leI (a := S.length) (b := j) (by omega) (by omega)).mp c70
        refine END o h3 _ k3 k4 ?_
        rcases k5 with k5 | k5
        · left; rw [List.drop_of_length_le c70] at k5; exact k5
        · exact Or.inr k5
      · have c70 : j < S.length := Nat.not_le.mp (fun z => c70 ((nI_leI (a := S.length) (b := j) (by omega) (by omega)).mpr z))
        obtain ⟨y, hy⟩ : ∃ y, S[j]? = some y := ⟨_, List.getElem?_eq_getElem c70⟩
        obtain ⟨a, b, t, y1, y2, y3, y4⟩ := hS y (List.mem_of_getElem? hy)
        have hdr : S.drop j = y :: S.drop (j + 1) := by rw [List.drop_eq_getElem_cons c70]; congr 1; exact Option.some.inj ((List.getElem?_eq_getElem c70).symm.trans hy)
        refine w_aload_n d_PW_writePattern_73 rfl rfl ?_
        refine w_get d_PW_writePattern_74 f_PW_21 wp rfl ?_
        refine w_if_eq (tgt := 96) d_PW_writePattern_77 rfl (fun c77 => ?_) (fun c77 => ?_)
        · have c77 : 60 < o.length := by
            have q9 := bI_f c77
            exact Nat.not_le.mp (of_decide_eq_false q9)
          refine END o h3 _ k3 k4 (Or.inr ?_)
          rcases k5 with k5 | k5
          · exact ⟨c77, by rw [← k5, List.length_append]; omega⟩
          · exact k5
        · have c77 : o.length ≤ 60 := of_decide_eq_true (bI_t c77)
          refine w_aload_n d_PW_writePattern_80 rfl rfl ?_
          refine w_aload_n d_PW_writePattern_81 rfl rfl ?_
          refine w_get d_PW_writePattern_82 f_PW_46 qp rfl ?_
          refine w_iload_n d_PW_writePattern_85 rfl ?_
          refine w_lald d_PW_writePattern_86 qb (vp_in_nI (by omega) (by omega)) ?_
          refine w_topl (y := lN (kOf a b t)) (by rw [nI_clamp (by omega), ← y4]; exact qhk _ _ hy) ?_
          refine w_callV (as := [.long (lN (kOf a b t))]) (st := []) d_PW_writePattern_87 yM_PW_writeString l_PW_50 vM_PW_writeString wp rfl rfl rfl rfl (m_PW_writeString k3 y1 y2 y3) (by decide) (by decide) (by decide) (by decide) (Nat.le_of_ble_eq_true rfl) ?_
          rintro _ h4 ⟨rfl, w4, o4⟩
          refine w_eq (st' := []) rfl ?_
          refine w_iinc (v := nI (j + 1)) d_PW_writePattern_90 rfl (nI_1 _) (by decide) ?_
          refine w_pl (pl' := [some (.ref p), some (.ref q), some (.int (nI (j + 1)))]) rfl ?_
          refine w_goto (tgt := 65) d_PW_writePattern_93 rfl ?_
          refine ih (j + 1) (o ++ sT (kOf a b t)) h4 (by omega) (by omega) w4 (k4.tr o4) ?_
          rcases k5 with k5 | k5
          · left; rw [← k5, hdr, y4]; simp only [List.flatMap_cons, List.append_assoc]
          · right; exact ⟨by rw [List.length_append]; omega, k5.2⟩
  have LR : ∀ (n : Nat) (i : Nat) (o : List Nat) (h3 : wH), (E.length - i < n) → (i ≤ E.length + 1) → (hPW h3 p o) → (wOff h h3 p 3) → (o ++ (eT (E.drop i) ++ (S.flatMap sT ++ [93])) = pT E S) → WP X M_PW_writePattern (wR 5 0 0) 0 EN 0 0 20 [some (.ref p), some (.ref q), some (.int (nI i))] [] h3 := by
    intro n
    induction n with
    | zero => intro i o h3 k1 k2 k3 k4 k5; omega
    | succ n ih =>
      intro i o h3 k1 k2 k3 k4 k5
      have wp := k3.1
      obtain ⟨qf, qk, qp, qa, qb, ql1, ql2, qhf, qhk⟩ := ghm.off k4 (by omega)
      refine w_iload_n d_PW_writePattern_20 rfl ?_
      refine w_iconst (v := nI 1) d_PW_writePattern_21 (by decide) ?_
      refine w_iadd d_PW_writePattern_22 ?_
      refine w_topi (y := nI (i + 1)) (nI_add _ _) ?_
      refine w_aload_n d_PW_writePattern_23 rfl rfl ?_
      refine w_get d_PW_writePattern_24 f_PW_29 qp rfl ?_
      refine w_icmp_ge (tgt := 63) d_PW_writePattern_27 rfl (fun c27 => ?_) (fun c27 => ?_)
      · have c27 := (nI_leI (a := E.length) (b := i + 1) (by omega) (by omega)).mp c27
        refine w_iconst (v := nI 0) d_PW_writePattern_63 (by decide) ?_
        refine w_istore_n d_PW_writePattern_64 (by decide) ?_
        refine LS (S.length + 1) 0 o h3 (by omega) (Nat.zero_le _) k3 k4 (Or.inl ?_)
        rw [eT_short (by rw [List.length_drop]; omega), List.nil_append] at k5
        rw [List.drop_zero]; exact k5
      · have c27 : i + 1 < E.length := Nat.not_le.mp (fun z => c27 ((nI_leI (a := E.length) (b := i + 1) (by omega) (by omega)).mpr z))
        obtain ⟨a, b, hab, ha1, hb1, hdr⟩ := eDrop2 hE.1 c27
        have hb31 := hE.2 b (List.mem_of_getElem? hb1)
        refine w_aload_n d_PW_writePattern_30 rfl rfl ?_
        refine w_get d_PW_writePattern_31 f_PW_21 wp rfl ?_
        refine w_if_eq (tgt := 63) d_PW_writePattern_34 rfl (fun c34 => ?_) (fun c34 => ?_)
        · have c34 : 60 < o.length := by
            have q9 := bI_f c34
            exact Nat.not_le.mp (of_decide_eq_false q9)
          refine w_iconst (v := nI 0) d_PW_writePattern_63 (by decide) ?_
          refine w_istore_n d_PW_writePattern_64 (by decide) ?_
          refine LS (S.length + 1) 0 o h3 (by omega) (Nat.zero_le _) k3 k4 (Or.inr ⟨c34, ?_⟩)
          rw [← k5, List.length_append]; omega
        · have c34 : o.length ≤ 60 := of_decide_eq_true (bI_t c34)
          refine w_aload_n d_PW_writePattern_37 rfl rfl ?_
          refine w_aload_n d_PW_writePattern_38 rfl rfl ?_
          refine w_get d_PW_writePattern_39 f_PW_35 qp rfl ?_
          refine w_iload_n d_PW_writePattern_42 rfl ?_
          refine w_iald d_PW_writePattern_43 qa (vp_in_nI (by omega) (by omega)) ?_
          refine w_topi (y := nI a) (by rw [nI_clamp (by omega)]; exact qhf _ _ ha1) ?_
          refine w_aload_n d_PW_writePattern_44 rfl rfl ?_
          refine w_get d_PW_writePattern_45 f_PW_35 qp rfl ?_
          refine w_iload_n d_PW_writePattern_48 rfl ?_
          refine w_iconst (v := nI 1) d_PW_writePattern_49 (by decide) ?_
          refine w_iadd d_PW_writePattern_50 ?_
          refine w_topi (y := nI (i + 1)) (nI_add _ _) ?_
          refine w_iald d_PW_writePattern_51 qa (vp_in_nI (by omega) (by omega)) ?_
          refine w_topi (y := nI b) (by rw [nI_clamp (by omega)]; exact qhf _ _ hb1) ?_
          refine w_iconst (v := nI 1) d_PW_writePattern_52 (by decide) ?_
          refine w_isub d_PW_writePattern_53 ?_
          refine w_topi (y := nI (b - 1)) (pk_sub (by omega)) ?_
          refine w_callV (as := [.int (nI a), .int (nI (b - 1))]) (st := []) d_PW_writePattern_54 yM_PW_writeRange l_PW_39 vM_PW_writeRange wp rfl rfl rfl rfl (m_PW_writeRange k3 (by omega) (by omega)) (by decide) (by decide) (by decide) (by decide) (Nat.le_of_ble_eq_true rfl) ?_
          rintro _ h4 ⟨rfl, w4, o4⟩
          refine w_eq (st' := []) rfl ?_
          refine w_iinc (v := nI (i + 2)) d_PW_writePattern_57 rfl (nI_add i 2) (by decide) ?_
          refine w_pl (pl' := [some (.ref p), some (.ref q), some (.int (nI (i + 2)))]) rfl ?_
          refine w_goto (tgt := 20) d_PW_writePattern_60 rfl ?_
          refine ih (i + 2) (o ++ rT a (b - 1)) h4 (by omega) (by omega) w4 (k4.tr o4) ?_
          rw [← k5, hdr]
          simp only [eT, List.append_assoc]
  refine w_aload_n d_PW_writePattern_0 rfl rfl ?_
  refine w_get d_PW_writePattern_1 f_PW_12 hp rfl ?_
  refine w_callV (as := []) (st := []) d_PW_writePattern_4 yM_CR_clear l_PW_18 vM_CR_clear hpr rfl rfl rfl rfl (m_CR_clear hrow) (by decide) (by decide) (by decide) (by decide) (Nat.le_of_ble_eq_true rfl) ?_
  rintro _ h1_ ⟨rfl, hr1, ho1⟩
  refine w_eq (st' := []) rfl ?_
  have kp := (ho1 p (by omega)).trans hp
  refine w_aload_n d_PW_writePattern_7 rfl rfl ?_
  refine w_iconst (v := nI 1) d_PW_writePattern_8 (by decide) ?_
  refine w_put d_PW_writePattern_9 f_PW_21 rfl kp rfl rfl rfl ?_
  refine w_nm (fun h1 e1 => ?_)
  have kp_1 := wS_eq e1 kp
  refine w_aload_n d_PW_writePattern_12 rfl rfl ?_
  refine w_bipush (v := nI 91) d_PW_writePattern_13 (by decide) ?_
  refine w_callV (as := [.int (nI 91)]) (st := []) d_PW_writePattern_15 yM_PW_put l_PW_25 vM_PW_put kp_1 rfl rfl rfl rfl (m_PW_put (o := []) ⟨kp_1, hr1.off (fun k hk => by rw [wS_off e1 (by omega)] : wOff h1_ h1 p 1) (by omega)⟩) (by decide) (by decide) (by decide) (by decide) (Nat.le_of_ble_eq_true rfl) ?_
  rintro _ h5 ⟨rfl, w5, o5⟩
  refine w_eq (st' := []) rfl ?_
  refine w_iconst (v := nI 0) d_PW_writePattern_18 (by decide) ?_
  refine w_istore_n d_PW_writePattern_19 (by decide) ?_
  refine w_pl (pl' := [some (.ref p), some (.ref q), some (.int (nI 0))]) rfl ?_
  refine LR (E.length + 1) 0 ([] ++ [91]) h5 (by omega) (by omega) w5 (fun k hk => ?_) (by rw [List.drop_zero]; rfl)
  rw [o5 k hk, wS_off e1 (by omega), ho1 k (by omega)]
end PW2
end
section
/-! TokenRow, one: written by wip/gen/tr1.py -/
/-- the number at place i of a row, -1 behind its end -/
def cA (t : List Nat) (i : Nat) : Int32 := match t[i]? with
  | some x => nI x
  | none => -1
theorem cA_eq {t : List Nat} (ht : ∀ x ∈ t, x < 2 ^ 31) {i c : Nat} (hc : c < 2 ^ 31) : cA t i = nI c ↔ t[i]? = some c := by
  unfold cA
  cases h : t[i]? with
  | none => exact ⟨fun z => absurd z.symm (nI_nm1 hc), fun z => by cases z⟩
  | some x => exact ⟨fun z => by rw [(nI_eq (ht x (List.mem_of_getElem? h)) hc).mp z], fun z => by cases z; rfl⟩
def hxI (x : Int32) : Int32 := if 48 ≤ x ∧ x ≤ 57 then x - 48 else if 97 ≤ x ∧ x ≤ 102 then x - 97 + 10 else if 65 ≤ x ∧ x ≤ 70 then x - 65 + 10 else -1
def ltI (x : Int32) : Bool := decide ((97 ≤ x ∧ x ≤ 122) ∨ (65 ≤ x ∧ x ≤ 90))
theorem i32_nle {x y : Int32} : ¬ x ≤ y ↔ y < x := Int32.not_le
theorem i32_nlt {x y : Int32} : ¬ x < y ↔ y ≤ x := Int32.not_lt
/-- tokens at place p: the text t, the tokens so far, the letters of the last name, the position -/
def hTR (h : wH) (p : Nat) (t : List Nat) (tk : List (Nat × Int32)) (l : List Nat) (pos : Nat) : Prop := ∃ fk fv : Nat → Int32, h[p]? = some (.inr (5, [.ref (p + 1), .ref (p + 3), .ref (p + 4), .ref (p + 5), .int (nI tk.length), .int (nI pos)])) ∧ hCR h (p + 1) t ∧ h[p + 3]? = some (.inl (0, 60, .inl fk)) ∧ h[p + 4]? = some (.inl (0, 60, .inl fv)) ∧ hCR h (p + 5) l ∧ tk.length ≤ 60 ∧ ∀ i q, tk[i]? = some q → fk i = nI q.1 ∧ fv i = q.2
theorem hTR.off {h h' : wH} {p q n : Nat} {t l : List Nat} {tk : List (Nat × Int32)} {pos : Nat} (a : hTR h p t tk l pos) (b : wOff h h' q n) (hd : p + 7 ≤ q ∨ q + n ≤ p) : hTR h' p t tk l pos := by
  obtain ⟨fk, fv, h1, h2, h3, h4, h5, h6⟩ := a
  exact ⟨fk, fv, by rw [b p (by omega)]; exact h1, h2.off b (by omega), by rw [b (p + 3) (by omega)]; exact h3, by rw [b (p + 4) (by omega)]; exact h4, h5.off b (by omega), h6⟩
def kd (tk : List (Nat × Int32)) (i : Nat) : Nat := match tk[i]? with
  | some q => q.1
  | none => 0
def vl (tk : List (Nat × Int32)) (i : Nat) : Int32 := match tk[i]? with
  | some q => q.2
  | none => -1
theorem upd_tk {f g : Nat → Int32} {tk : List (Nat × Int32)} {k : Nat} {v : Int32} (hf : ∀ i q, tk[i]? = some q → f i = nI q.1 ∧ g i = q.2) : ∀ i q, (tk ++ [(k, v)])[i]? = some q → upd f tk.length (nI k) i = nI q.1 ∧ upd g tk.length v i = q.2 := by
  intro i q hq
  by_cases hi : i < tk.length
  · rw [List.getElem?_append_left hi] at hq
    rw [pk_un (by omega), pk_un (by omega)]
    exact hf i q hq
  · rw [List.getElem?_append_right (by omega)] at hq
    have h9 : i - tk.length < 1 := (List.getElem?_eq_some_iff.mp hq).1
    have h8 : i = tk.length := by omega
    subst h8
    rw [Nat.sub_self] at hq
    cases hq
    exact ⟨pk_us, pk_us⟩
section TR1
variable {X : wX}
theorem m_CR_codeN {h : wH} {p i : Nat} {t : List Nat} (hc : hCR h p t) (hi : i < 2 ^ 31) : PM X M_CR_codeAt 0 0 0 [.ref p, .int (nI i)] h (fun r h' => r = some (.int (cA t i)) ∧ h' = h) := by
  have q := m_CR_codeAt (X := X) (k := nI i) hc
  rw [if_neg (nI_pos hi), nI_clamp hi] at q
  exact q
set_option maxHeartbeats 4000000 in
set_option maxRecDepth 100000 in
theorem m_TR_hexDigit {h : wH} {x : Int32} : PM X M_TR_hexDigit 0 0 0 [.int (x)] h (fun r h' => r = some (.int (hxI x)) ∧ h' = h) := by
  refine PM.at (pl := [some (.int (x))]) rfl rfl (by simp [wle, wen]) ?_
  generalize hEN : wEm X 0 0 _ = EN
  refine w_iload_n d_TR_hexDigit_0 rfl ?_
  refine w_bipush (v := nI 48) d_TR_hexDigit_1 (by decide) ?_
  suffices J17 : ¬ ((48 : Int32) ≤ x ∧ x ≤ 57) → WP X M_TR_hexDigit (wR 0 0 0) 0 EN 0 0 17 [some (.int (x))] [] h by
    refine w_icmp_lt (tgt := 17) d_TR_hexDigit_3 rfl (fun c3 => ?_) (fun c3 => ?_)
    · exact J17 (fun z => absurd z.1 (i32_nle.mpr c3))
    · refine w_iload_n d_TR_hexDigit_6 rfl ?_
      refine w_bipush (v := nI 57) d_TR_hexDigit_7 (by decide) ?_
      refine w_icmp_gt (tgt := 17) d_TR_hexDigit_9 rfl (fun c9 => ?_) (fun c9 => ?_)
      · exact J17 (fun z => absurd z.2 (i32_nle.mpr c9))
      · refine w_iload_n d_TR_hexDigit_12 rfl ?_
        refine w_bipush (v := nI 48) d_TR_hexDigit_13 (by decide) ?_
        refine w_isub d_TR_hexDigit_15 ?_
        rw [← hEN]
        refine w_iret d_TR_hexDigit_16 rfl ?_
        rw [hxI, if_pos ⟨i32_nlt.mp c3, i32_nlt.mp c9⟩]
        exact ⟨rfl, rfl⟩
  intro n1
  refine w_iload_n d_TR_hexDigit_17 rfl ?_
  refine w_bipush (v := nI 97) d_TR_hexDigit_18 (by decide) ?_
  suffices J37 : ¬ ((97 : Int32) ≤ x ∧ x ≤ 102) → WP X M_TR_hexDigit (wR 0 0 0) 0 EN 0 0 37 [some (.int (x))] [] h by
    refine w_icmp_lt (tgt := 37) d_TR_hexDigit_20 rfl (fun c20 => ?_) (fun c20 => ?_)
    · exact J37 (fun z => absurd z.1 (i32_nle.mpr c20))
    · refine w_iload_n d_TR_hexDigit_23 rfl ?_
      refine w_bipush (v := nI 102) d_TR_hexDigit_24 (by decide) ?_
      refine w_icmp_gt (tgt := 37) d_TR_hexDigit_26 rfl (fun c26 => ?_) (fun c26 => ?_)
      · exact J37 (fun z => absurd z.2 (i32_nle.mpr c26))
      · refine w_iload_n d_TR_hexDigit_29 rfl ?_
        refine w_bipush (v := nI 97) d_TR_hexDigit_30 (by decide) ?_
        refine w_isub d_TR_hexDigit_32 ?_
        refine w_bipush (v := nI 10) d_TR_hexDigit_33 (by decide) ?_
        refine w_iadd d_TR_hexDigit_35 ?_
        rw [← hEN]
        refine w_iret d_TR_hexDigit_36 rfl ?_
        rw [hxI, if_neg n1, if_pos ⟨i32_nlt.mp c20, i32_nlt.mp c26⟩]
        exact ⟨rfl, rfl⟩
  intro n2
  refine w_iload_n d_TR_hexDigit_37 rfl ?_
  refine w_bipush (v := nI 65) d_TR_hexDigit_38 (by decide) ?_
  suffices J59 : ¬ ((65 : Int32) ≤ x ∧ x ≤ 70) → WP X M_TR_hexDigit (wR 0 0 0) 0 EN 0 0 59 [some (.int (x))] [] h by
    refine w_icmp_lt (tgt := 59) d_TR_hexDigit_40 rfl (fun c40 => ?_) (fun c40 => ?_)
    · exact J59 (fun z => absurd z.1 (i32_nle.mpr c40))
    · refine w_iload_n d_TR_hexDigit_43 rfl ?_
      refine w_bipush (v := nI 70) d_TR_hexDigit_44 (by decide) ?_
      refine w_icmp_gt (tgt := 59) d_TR_hexDigit_46 rfl (fun c46 => ?_) (fun c46 => ?_)
      · exact J59 (fun z => absurd z.2 (i32_nle.mpr c46))
      · refine w_iload_n d_TR_hexDigit_49 rfl ?_
        refine w_bipush (v := nI 65) d_TR_hexDigit_50 (by decide) ?_
        refine w_isub d_TR_hexDigit_52 ?_
        refine w_bipush (v := nI 10) d_TR_hexDigit_53 (by decide) ?_
        refine w_iadd d_TR_hexDigit_55 ?_
        refine w_goto (tgt := 60) d_TR_hexDigit_56 rfl ?_
        rw [← hEN]
        refine w_iret d_TR_hexDigit_60 rfl ?_
        first
          | (rw [hxI, if_neg n1, if_neg n2, if_neg n3]; exact ⟨rfl, rfl⟩)
          | (rw [hxI, if_neg n1, if_neg n2, if_pos ⟨i32_nlt.mp c40, i32_nlt.mp c46⟩]; exact ⟨rfl, rfl⟩)
  intro n3
  refine w_iconst (v := -1) d_TR_hexDigit_59 (by decide) ?_
  rw [← hEN]
  refine w_iret d_TR_hexDigit_60 rfl ?_
  first
    | (rw [hxI, if_neg n1, if_neg n2, if_neg n3]; exact ⟨rfl, rfl⟩)
    | (rw [hxI, if_neg n1, if_neg n2, if_pos ⟨i32_nlt.mp c40, i32_nlt.mp c46⟩]; exact ⟨rfl, rfl⟩)
set_option maxHeartbeats 4000000 in
set_option maxRecDepth 100000 in
theorem m_TR_isLetter {h : wH} {x : Int32} : PM X M_TR_isLetter 0 0 0 [.int (x)] h (fun r h' => r = some (.int (bI (ltI x))) ∧ h' = h) := by
  refine PM.at (pl := [some (.int (x))]) rfl rfl (by simp [wle, wen]) ?_
  generalize hEN : wEm X 0 0 _ = EN
  refine w_iload_n d_TR_isLetter_0 rfl ?_
  refine w_bipush (v := nI 97) d_TR_isLetter_1 (by decide) ?_
  suffices J24 : ltI x = true → WP X M_TR_isLetter (wR 0 0 0) 0 EN 0 0 24 [some (.int (x))] [] h by
    suffices J12 : ¬ ((97 : Int32) ≤ x ∧ x ≤ 122) → WP X M_TR_isLetter (wR 0 0 0) 0 EN 0 0 12 [some (.int (x))] [] h by
      refine w_icmp_lt (tgt := 12) d_TR_isLetter_3 rfl (fun c3 => ?_) (fun c3 => ?_)
      · exact J12 (fun z => absurd z.1 (i32_nle.mpr c3))
      · refine w_iload_n d_TR_isLetter_6 rfl ?_
        refine w_bipush (v := nI 122) d_TR_isLetter_7 (by decide) ?_
        refine w_icmp_le (tgt := 24) d_TR_isLetter_9 rfl (fun c9 => ?_) (fun c9 => ?_)
        · exact J24 (decide_eq_true (Or.inl ⟨i32_nlt.mp c3, c9⟩))
        · exact J12 (fun z => absurd z.2 c9)
    intro n1
    refine w_iload_n d_TR_isLetter_12 rfl ?_
    refine w_bipush (v := nI 65) d_TR_isLetter_13 (by decide) ?_
    refine w_icmp_lt (tgt := 28) d_TR_isLetter_15 rfl (fun c15 => ?_) (fun c15 => ?_)
    · refine w_iconst (v := nI 0) d_TR_isLetter_28 (by decide) ?_
      rw [← hEN]
      refine w_zret d_TR_isLetter_29 rfl (by first | exact Or.inl rfl | exact Or.inr rfl) ?_
      first
        | (rw [y1]; exact ⟨rfl, rfl⟩)
        | (rw [show ltI x = false from decide_eq_false (fun z => z.elim n1 (fun z => absurd z.1 (i32_nle.mpr c15)))]; exact ⟨rfl, rfl⟩)
        | (rw [show ltI x = false from decide_eq_false (fun z => z.elim n1 (fun z => absurd z.2 (i32_nle.mpr c21)))]; exact ⟨rfl, rfl⟩)
    · refine w_iload_n d_TR_isLetter_18 rfl ?_
      refine w_bipush (v := nI 90) d_TR_isLetter_19 (by decide) ?_
      refine w_icmp_gt (tgt := 28) d_TR_isLetter_21 rfl (fun c21 => ?_) (fun c21 => ?_)
      · refine w_iconst (v := nI 0) d_TR_isLetter_28 (by decide) ?_
        rw [← hEN]
        refine w_zret d_TR_isLetter_29 rfl (by first | exact Or.inl rfl | exact Or.inr rfl) ?_
        first
          | (rw [y1]; exact ⟨rfl, rfl⟩)
          | (rw [show ltI x = false from decide_eq_false (fun z => z.elim n1 (fun z => absurd z.1 (i32_nle.mpr c15)))]; exact ⟨rfl, rfl⟩)
          | (rw [show ltI x = false from decide_eq_false (fun z => z.elim n1 (fun z => absurd z.2 (i32_nle.mpr c21)))]; exact ⟨rfl, rfl⟩)
      · exact J24 (decide_eq_true (Or.inr ⟨i32_nlt.mp c15, i32_nlt.mp c21⟩))
  intro y1
  refine w_iconst (v := nI 1) d_TR_isLetter_24 (by decide) ?_
  refine w_goto (tgt := 29) d_TR_isLetter_25 rfl ?_
  rw [← hEN]
  refine w_zret d_TR_isLetter_29 rfl (by first | exact Or.inl rfl | exact Or.inr rfl) ?_
  first
    | (rw [y1]; exact ⟨rfl, rfl⟩)
    | (rw [show ltI x = false from decide_eq_false (fun z => z.elim n1 (fun z => absurd z.1 (i32_nle.mpr c15)))]; exact ⟨rfl, rfl⟩)
    | (rw [show ltI x = false from decide_eq_false (fun z => z.elim n1 (fun z => absurd z.2 (i32_nle.mpr c21)))]; exact ⟨rfl, rfl⟩)
set_option maxHeartbeats 4000000 in
set_option maxRecDepth 100000 in
theorem m_TR_kindAt {h : wH} {p pos : Nat} {t l : List Nat} {tk : List (Nat × Int32)} {i : Nat} (hm : hTR h p t tk l pos) (hi : i < 2 ^ 31) : PM X M_TR_kindAt 0 0 0 [.ref p, .int (nI i)] h (fun r h' => r = some (.int (nI (kd tk i))) ∧ h' = h) := by
  have hhm := hm; obtain ⟨fk, fv, hp, htx, hkk, hvv, hlt, hl60, hfk⟩ := hm; have htx0 := htx; obtain ⟨tf, tp, ta, tl, thf⟩ := htx; have hlt0 := hlt; obtain ⟨lf, lp, la, ll, lhf⟩ := hlt
  refine PM.at (pl := [some (.ref p), some (.int (nI i))]) rfl rfl (by simp [wle, wen]) ?_
  generalize hEN : wEm X 0 0 _ = EN
  refine w_iload_n d_TR_kindAt_0 rfl ?_
  refine w_if_lt (tgt := 21) d_TR_kindAt_1 rfl (fun z => absurd z (nI_pos hi)) (fun _ => ?_)
  refine w_iload_n d_TR_kindAt_4 rfl ?_
  refine w_aload_n d_TR_kindAt_5 rfl rfl ?_
  refine w_get d_TR_kindAt_6 f_TR_28 hp rfl ?_
  refine w_icmp_ge (tgt := 21) d_TR_kindAt_9 rfl (fun c9 => ?_) (fun c9 => ?_)
  · have c9 := (nI_leI (a := tk.length) (b := i) (by omega) hi).mp c9
    refine w_iconst (v := nI 0) d_TR_kindAt_21 (by decide) ?_
    rw [← hEN]
    refine w_iret d_TR_kindAt_22 rfl ?_
    unfold kd
    first
      | (rw [hq]; exact ⟨rfl, rfl⟩)
      | (rw [List.getElem?_eq_none c9]; exact ⟨rfl, rfl⟩)
  · have c9 : i < tk.length := Nat.not_le.mp (fun z => c9 ((nI_leI (a := tk.length) (b := i) (by omega) hi).mpr z))
    obtain ⟨q, hq⟩ : ∃ q, tk[i]? = some q := ⟨_, List.getElem?_eq_getElem c9⟩
    refine w_aload_n d_TR_kindAt_12 rfl rfl ?_
    refine w_get d_TR_kindAt_13 f_TR_18 hp rfl ?_
    refine w_iload_n d_TR_kindAt_16 rfl ?_
    refine w_iald d_TR_kindAt_17 hkk (vp_in_nI (by omega) (by omega)) ?_
    refine w_topi (y := nI q.1) (by rw [nI_clamp hi]; exact (hfk i q hq).1) ?_
    refine w_goto (tgt := 22) d_TR_kindAt_18 rfl ?_
    rw [← hEN]
    refine w_iret d_TR_kindAt_22 rfl ?_
    unfold kd
    first
      | (rw [hq]; exact ⟨rfl, rfl⟩)
      | (rw [List.getElem?_eq_none c9]; exact ⟨rfl, rfl⟩)
set_option maxHeartbeats 4000000 in
set_option maxRecDepth 100000 in
theorem m_TR_valueAt {h : wH} {p pos : Nat} {t l : List Nat} {tk : List (Nat × Int32)} {i : Nat} (hm : hTR h p t tk l pos) (hi : i < 2 ^ 31) : PM X M_TR_valueAt 0 0 0 [.ref p, .int (nI i)] h (fun r h' => r = some (.int (vl tk i)) ∧ h' = h) := by
  have hhm := hm; obtain ⟨fk, fv, hp, htx, hkk, hvv, hlt, hl60, hfk⟩ := hm; have htx0 := htx; obtain ⟨tf, tp, ta, tl, thf⟩ := htx; have hlt0 := hlt; obtain ⟨lf, lp, la, ll, lhf⟩ := hlt
  refine PM.at (pl := [some (.ref p), some (.int (nI i))]) rfl rfl (by simp [wle, wen]) ?_
  generalize hEN : wEm X 0 0 _ = EN
  refine w_iload_n d_TR_valueAt_0 rfl ?_
  refine w_if_lt (tgt := 21) d_TR_valueAt_1 rfl (fun z => absurd z (nI_pos hi)) (fun _ => ?_)
  refine w_iload_n d_TR_valueAt_4 rfl ?_
  refine w_aload_n d_TR_valueAt_5 rfl rfl ?_
  refine w_get d_TR_valueAt_6 f_TR_28 hp rfl ?_
  refine w_icmp_ge (tgt := 21) d_TR_valueAt_9 rfl (fun c9 => ?_) (fun c9 => ?_)
  · have c9 := (nI_leI (a := tk.length) (b := i) (by omega) hi).mp c9
    refine w_iconst (v := -1) d_TR_valueAt_21 (by decide) ?_
    rw [← hEN]
    refine w_iret d_TR_valueAt_22 rfl ?_
    unfold vl
    first
      | (rw [hq]; exact ⟨rfl, rfl⟩)
      | (rw [List.getElem?_eq_none c9]; exact ⟨rfl, rfl⟩)
  · have c9 : i < tk.length := Nat.not_le.mp (fun z => c9 ((nI_leI (a := tk.length) (b := i) (by omega) hi).mpr z))
    obtain ⟨q, hq⟩ : ∃ q, tk[i]? = some q := ⟨_, List.getElem?_eq_getElem c9⟩
    refine w_aload_n d_TR_valueAt_12 rfl rfl ?_
    refine w_get d_TR_valueAt_13 f_TR_22 hp rfl ?_
    refine w_iload_n d_TR_valueAt_16 rfl ?_
    refine w_iald d_TR_valueAt_17 hvv (vp_in_nI (by omega) (by omega)) ?_
    refine w_topi (y := q.2) (by rw [nI_clamp hi]; exact (hfk i q hq).2) ?_
    refine w_goto (tgt := 22) d_TR_valueAt_18 rfl ?_
    rw [← hEN]
    refine w_iret d_TR_valueAt_22 rfl ?_
    unfold vl
    first
      | (rw [hq]; exact ⟨rfl, rfl⟩)
      | (rw [List.getElem?_eq_none c9]; exact ⟨rfl, rfl⟩)
set_option maxHeartbeats 4000000 in
set_option maxRecDepth 100000 in
theorem m_TR_beginsSet {h : wH} {p pos : Nat} {t l : List Nat} {tk : List (Nat × Int32)} {i : Nat} (hm : hTR h p t tk l pos) (hi : i < 2 ^ 31) (hk : kd tk i < 2 ^ 31) : PM X M_TR_beginsSet 1 0 0 [.ref p, .int (nI i)] h (fun r h' => r = some (.int (bI (decide (kd tk i = 4 ∨ kd tk i = 5 ∨ kd tk i = 2 ∨ kd tk i = 3)))) ∧ h' = h) := by
  have hhm := hm; obtain ⟨fk, fv, hp, htx, hkk, hvv, hlt, hl60, hfk⟩ := hm; have htx0 := htx; obtain ⟨tf, tp, ta, tl, thf⟩ := htx; have hlt0 := hlt; obtain ⟨lf, lp, la, ll, lhf⟩ := hlt
  refine PM.at (pl := [some (.ref p), some (.int (nI i)), none]) rfl rfl (by simp [wle, wen]) ?_
  generalize hEN : wEm X 0 0 _ = EN
  refine w_aload_n d_TR_beginsSet_0 rfl rfl ?_
  refine w_iload_n d_TR_beginsSet_1 rfl ?_
  refine w_callV (as := [.int (nI i)]) (st := []) d_TR_beginsSet_2 yM_TR_kindAt l_TR_32 vM_TR_kindAt hp rfl rfl rfl rfl (m_TR_kindAt hhm hi) (by decide) (by decide) (by decide) (by decide) (Nat.le_of_ble_eq_true rfl) ?_
  rintro _ h9_1 ⟨rfl, e9_1⟩
  rw [e9_1]
  refine w_eq (st' := [.int (nI (kd tk i))]) rfl ?_
  refine w_istore_n d_TR_beginsSet_5 (by decide) ?_
  refine w_pl (pl' := [some (.ref p), some (.int (nI i)), some (.int (nI (kd tk i)))]) rfl ?_
  refine w_iload_n d_TR_beginsSet_6 rfl ?_
  refine w_iconst (v := nI 4) d_TR_beginsSet_7 (by decide) ?_
  suffices J26 : (kd tk i = 4 ∨ kd tk i = 5 ∨ kd tk i = 2 ∨ kd tk i = 3) → WP X M_TR_beginsSet (wR 1 0 0) 0 EN 0 0 26 [some (.ref p), some (.int (nI i)), some (.int (nI (kd tk i)))] [] h by
    refine w_icmp_eq (tgt := 26) d_TR_beginsSet_8 rfl (fun c8 => ?_) (fun c8 => ?_)
    · have c8 : kd tk i = 4 := (nI_eq hk (by decide)).mp c8
      exact J26 (by omega)
    · have c8 : ¬ kd tk i = 4 := fun z => c8 (by rw [z])
      refine w_iload_n d_TR_beginsSet_11 rfl ?_
      refine w_iconst (v := nI 5) d_TR_beginsSet_12 (by decide) ?_
      refine w_icmp_eq (tgt := 26) d_TR_beginsSet_13 rfl (fun c13 => ?_) (fun c13 => ?_)
      · have c13 : kd tk i = 5 := (nI_eq hk (by decide)).mp c13
        exact J26 (by omega)
      · have c13 : ¬ kd tk i = 5 := fun z => c13 (by rw [z])
        refine w_iload_n d_TR_beginsSet_16 rfl ?_
        refine w_iconst (v := nI 2) d_TR_beginsSet_17 (by decide) ?_
        refine w_icmp_eq (tgt := 26) d_TR_beginsSet_18 rfl (fun c18 => ?_) (fun c18 => ?_)
        · have c18 : kd tk i = 2 := (nI_eq hk (by decide)).mp c18
          exact J26 (by omega)
        · have c18 : ¬ kd tk i = 2 := fun z => c18 (by rw [z])
          refine w_iload_n d_TR_beginsSet_21 rfl ?_
          refine w_iconst (v := nI 3) d_TR_beginsSet_22 (by decide) ?_
          refine w_icmp_ne (tgt := 30) d_TR_beginsSet_23 rfl (fun c23 => ?_) (fun c23 => ?_)
          · have c23 : ¬ kd tk i = 3 := fun z => c23 (by rw [z])
            refine w_iconst (v := nI 0) d_TR_beginsSet_30 (by decide) ?_
            rw [← hEN]
            refine w_zret d_TR_beginsSet_31 rfl (by first | exact Or.inl rfl | exact Or.inr rfl) ?_
            first
              | (rw [decide_eq_true y1]; exact ⟨rfl, rfl⟩)
              | (rw [decide_eq_false (by omega)]; exact ⟨rfl, rfl⟩)
          · have c23 : kd tk i = 3 := (nI_eq hk (by decide)).mp c23
            exact J26 (by omega)
  intro y1
  refine w_iconst (v := nI 1) d_TR_beginsSet_26 (by decide) ?_
  refine w_goto (tgt := 31) d_TR_beginsSet_27 rfl ?_
  rw [← hEN]
  refine w_zret d_TR_beginsSet_31 rfl (by first | exact Or.inl rfl | exact Or.inr rfl) ?_
  first
    | (rw [decide_eq_true y1]; exact ⟨rfl, rfl⟩)
    | (rw [decide_eq_false (by omega)]; exact ⟨rfl, rfl⟩)
set_option maxHeartbeats 4000000 in
set_option maxRecDepth 100000 in
theorem m_TR_add {h : wH} {p pos : Nat} {t l : List Nat} {tk : List (Nat × Int32)} {k wd : Nat} {v : Int32} (hm : hTR h p t tk l pos) (hlen : tk.length < 60) : PM X M_TR_add 0 0 0 [.ref p, .int (nI k), .int (v), .int (nI wd)] h (fun r h' => r = some (.int (nI 1)) ∧ hTR h' p t (tk ++ [(k, v)]) l (pos + wd) ∧ wOff h h' p 7) := by
  have hhm := hm; obtain ⟨fk, fv, hp, htx, hkk, hvv, hlt, hl60, hfk⟩ := hm; have htx0 := htx; obtain ⟨tf, tp, ta, tl, thf⟩ := htx; have hlt0 := hlt; obtain ⟨lf, lp, la, ll, lhf⟩ := hlt
  refine PM.at (pl := [some (.ref p), some (.int (nI k)), some (.int (v)), some (.int (nI wd))]) rfl rfl (by simp [wle, wen]) ?_
  generalize hEN : wEm X 0 0 _ = EN
  refine w_aload_n d_TR_add_0 rfl rfl ?_
  refine w_get d_TR_add_1 f_TR_28 hp rfl ?_
  refine w_bipush (v := nI 60) d_TR_add_4 (by decide) ?_
  refine w_icmp_lt (tgt := 11) d_TR_add_6 rfl (fun _ => ?_) (fun z => absurd (nI_lt hlen (by omega)) z)
  refine w_aload_n d_TR_add_11 rfl rfl ?_
  refine w_get d_TR_add_12 f_TR_18 hp rfl ?_
  refine w_aload_n d_TR_add_15 rfl rfl ?_
  refine w_get d_TR_add_16 f_TR_28 hp rfl ?_
  refine w_iload_n d_TR_add_19 rfl ?_
  refine w_iast d_TR_add_20 hkk (vp_in_nI hlen (by omega)) ?_
  refine w_nm (fun h1 e1 => ?_)
  have hp_1 := wS_ne e1 (by omega) hp
  have tp_1 := wS_ne e1 (by omega) tp
  have hkk_1 := wS_eq e1 hkk
  have hvv_1 := wS_ne e1 (by omega) hvv
  have lp_1 := wS_ne e1 (by omega) lp
  refine w_aload_n d_TR_add_21 rfl rfl ?_
  refine w_get d_TR_add_22 f_TR_22 hp_1 rfl ?_
  refine w_aload_n d_TR_add_25 rfl rfl ?_
  refine w_get d_TR_add_26 f_TR_28 hp_1 rfl ?_
  refine w_iload_n d_TR_add_29 rfl ?_
  refine w_iast d_TR_add_30 hvv_1 (vp_in_nI hlen (by omega)) ?_
  refine w_nm (fun h2 e2 => ?_)
  have hp_2 := wS_ne e2 (by omega) hp_1
  have tp_2 := wS_ne e2 (by omega) tp_1
  have hkk_2 := wS_ne e2 (by omega) hkk_1
  have hvv_2 := wS_eq e2 hvv_1
  have lp_2 := wS_ne e2 (by omega) lp_1
  refine w_aload_n d_TR_add_31 rfl rfl ?_
  refine w_dup d_TR_add_32 rfl ?_
  refine w_get d_TR_add_33 f_TR_28 hp_2 rfl ?_
  refine w_iconst (v := nI 1) d_TR_add_36 (by decide) ?_
  refine w_iadd d_TR_add_37 ?_
  refine w_topi (y := nI (tk.length + 1)) (nI_add _ _) ?_
  refine w_put d_TR_add_38 f_TR_28 rfl hp_2 rfl rfl rfl ?_
  refine w_nm (fun h3 e3 => ?_)
  have hp_3 := wS_eq e3 hp_2
  have tp_3 := wS_ne e3 (by omega) tp_2
  have hkk_3 := wS_ne e3 (by omega) hkk_2
  have hvv_3 := wS_ne e3 (by omega) hvv_2
  have lp_3 := wS_ne e3 (by omega) lp_2
  refine w_aload_n d_TR_add_41 rfl rfl ?_
  refine w_dup d_TR_add_42 rfl ?_
  refine w_get d_TR_add_43 f_TR_40 hp_3 rfl ?_
  refine w_iload_n d_TR_add_46 rfl ?_
  refine w_iadd d_TR_add_47 ?_
  refine w_topi (y := nI (pos + wd)) (nI_add _ _) ?_
  refine w_put d_TR_add_48 f_TR_40 rfl hp_3 rfl rfl rfl ?_
  refine w_nm (fun h4 e4 => ?_)
  have hp_4 := wS_eq e4 hp_3
  have tp_4 := wS_ne e4 (by omega) tp_3
  have hkk_4 := wS_ne e4 (by omega) hkk_3
  have hvv_4 := wS_ne e4 (by omega) hvv_3
  have lp_4 := wS_ne e4 (by omega) lp_3
  refine w_iconst (v := nI 1) d_TR_add_51 (by decide) ?_
  rw [← hEN]
  refine w_zret d_TR_add_52 rfl (by first | exact Or.inl rfl | exact Or.inr rfl) ?_
  have hoff : wOff h h4 p 7 := fun k hk => by rw [wS_off e4 (by omega), wS_off e3 (by omega), wS_off e2 (by omega), wS_off e1 (by omega)]
  have ho1 : ∀ j, (j = p + 1 ∨ j = p + 2 ∨ j = p + 5 ∨ j = p + 6) → h4[j]? = h[j]? := fun j hj => by rw [wS_off e4 (by omega), wS_off e3 (by omega), wS_off e2 (by omega), wS_off e1 (by omega)]
  refine ⟨rfl, ⟨_, _, ?_, ⟨tf, by rw [ho1 _ (by omega)]; exact tp, by rw [ho1 _ (by omega)]; exact ta, tl, thf⟩, hkk_4, hvv_4, ⟨lf, by rw [ho1 _ (by omega)]; exact lp, by rw [ho1 _ (by omega)]; exact la, ll, lhf⟩, by rw [List.length_append, List.length_singleton]; omega, ?_⟩, hoff⟩
  · rw [List.length_append, List.length_singleton]; exact hp_4
  · rw [nI_clamp (by omega)]; exact upd_tk hfk
end TR1
end
section
/-! TokenRow, two: written by wip/gen/tr2.py -/
theorem nx_or (a b : Nat) : nI a ||| nI b = nI (a ||| b) := Int32.toBitVec_inj.mp (by
  show BitVec.ofNat 32 a ||| BitVec.ofNat 32 b = BitVec.ofNat 32 (a ||| b)
  apply BitVec.eq_of_toNat_eq
  rw [BitVec.toNat_or, BitVec.toNat_ofNat, BitVec.toNat_ofNat, BitVec.toNat_ofNat, Nat.or_mod_two_pow])
theorem hTR.letters {h h' : wH} {p : Nat} {t l l' : List Nat} {tk : List (Nat × Int32)} {pos : Nat} (a : hTR h p t tk l pos) (b : hCR h' (p + 5) l') (c : wOff h h' (p + 5) 2) : hTR h' p t tk l' pos := by
  obtain ⟨fk, fv, h1, h2, h3, h4, h5, h6⟩ := a
  exact ⟨fk, fv, by rw [c p (by omega)]; exact h1, h2.off c (by omega), by rw [c (p + 3) (by omega)]; exact h3, by rw [c (p + 4) (by omega)]; exact h4, b, h6⟩
/-- how many hex digits there are, of the next r, k being behind -/
def hxR (t : List Nat) (f : Nat) : Nat → Nat → Nat
  | 0, k => k
  | r + 1, k => if hxI (cA t (f + k)) = -1 then k else hxR t f r (k + 1)
/-- the value of d digits -/
def hvI (t : List Nat) (f : Nat) : Nat → Int32
  | 0 => nI 0
  | d + 1 => hvI t f d * nI 16 + hxI (cA t (f + d))
/-- a name from k on: where it ends, and its letters, small -/
def nmR (t : List Nat) : Nat → Nat → List Nat → Nat × List Nat
  | 0, _, l => (t.length, l)
  | r + 1, k, l => match t[k]? with
    | none => (t.length, l)
    | some x => if ltI (nI x) = true then nmR t r (k + 1) (l ++ [x ||| 32]) else if x = 32 ∨ x = 95 ∨ x = 45 then nmR t r (k + 1) l else (k, l)
section TR2
variable {X : wX}
set_option maxHeartbeats 4000000 in
set_option maxRecDepth 100000 in
theorem m_TR_countHex {h : wH} {p pos : Nat} {t l : List Nat} {tk : List (Nat × Int32)} {f m : Nat} (hm : hTR h p t tk l pos) (hf : f < 2 ^ 20) (hm0 : m < 2 ^ 20) : PM X M_TR_countHexDigits 1 0 0 [.ref p, .int (nI f), .int (nI m)] h (fun r h' => r = some (.int (nI (hxR t f m 0))) ∧ h' = h) := by
  have hhm := hm; obtain ⟨fk, fv, hp, htx, hkk, hvv, hlt, hl60, hfk⟩ := hm; have htx0 := htx; obtain ⟨tf, tp, ta, tl, thf⟩ := htx; have hlt0 := hlt; obtain ⟨lf, lp, la, ll, lhf⟩ := hlt
  refine PM.at (pl := [some (.ref p), some (.int (nI f)), some (.int (nI m)), none]) rfl rfl (by simp [wle, wen]) ?_
  generalize hEN : wEm X 0 0 _ = EN
  have L : ∀ (n : Nat) (k : Nat), (m - k < n) → (k ≤ m) → (hxR t f (m - k) k = hxR t f m 0) → WP X M_TR_countHexDigits (wR 1 0 0) 0 EN 0 0 2 [some (.ref p), some (.int (nI f)), some (.int (nI m)), some (.int (nI k))] [] h := by
    intro n
    induction n with
    | zero => intro k k1 k2 k3; omega
    | succ n ih =>
      intro k k1 k2 k3
      refine w_iload_n d_TR_countHexDigits_2 rfl ?_
      refine w_iload_n d_TR_countHexDigits_3 rfl ?_
      refine w_icmp_ge (tgt := 32) d_TR_countHexDigits_4 rfl (fun c4 => ?_) (fun c4 => ?_)
      · have c4 := (nI_leI (a := m) (b := k) (by omega) (by omega)).mp c4
        refine w_iload_n d_TR_countHexDigits_32 rfl ?_
        rw [← hEN]
        refine w_iret d_TR_countHexDigits_33 rfl ?_
        have hk9 : k = m := by omega
        rw [hk9, Nat.sub_self] at k3
        rw [← k3]
        exact ⟨rfl, rfl⟩
      · have c4 : k < m := Nat.not_le.mp (fun z => c4 ((nI_leI (a := m) (b := k) (by omega) (by omega)).mpr z))
        rw [show m - k = (m - (k + 1)) + 1 by omega] at k3
        simp only [hxR] at k3
        refine w_aload_n d_TR_countHexDigits_7 rfl rfl ?_
        refine w_get d_TR_countHexDigits_8 f_TR_12 hp rfl ?_
        refine w_iload_n d_TR_countHexDigits_11 rfl ?_
        refine w_iload_n d_TR_countHexDigits_12 rfl ?_
        refine w_iadd d_TR_countHexDigits_13 ?_
        refine w_topi (y := nI (f + k)) (nI_add _ _) ?_
        refine w_callV (as := [.int (nI (f + k))]) (st := []) d_TR_countHexDigits_14 yM_CR_codeAt l_TR_43 vM_CR_codeAt tp rfl rfl rfl rfl (m_CR_codeN htx0 (by omega)) (by decide) (by decide) (by decide) (by decide) (Nat.le_of_ble_eq_true rfl) ?_
        rintro _ h9_1 ⟨rfl, e9_1⟩
        rw [e9_1]
        refine w_eq (st' := [.int (cA t (f + k))]) rfl ?_
        refine w_callS (as := [.int (cA t (f + k))]) (st := []) d_TR_countHexDigits_17 yM_TR_hexDigit l_TR_103 sM_TR_hexDigit rfl rfl (m_TR_hexDigit) (by decide) (by decide) (by decide) (by decide) (Nat.le_of_ble_eq_true rfl) ?_
        rintro _ h9_2 ⟨rfl, e9_2⟩
        rw [e9_2]
        refine w_eq (st' := [.int (hxI (cA t (f + k)))]) rfl ?_
        refine w_iconst (v := -1) d_TR_countHexDigits_20 (by decide) ?_
        refine w_icmp_ne (tgt := 26) d_TR_countHexDigits_21 rfl (fun c21 => ?_) (fun c21 => ?_)
        · rw [if_neg c21] at k3
          refine w_iinc (v := nI (k + 1)) d_TR_countHexDigits_26 rfl (nI_1 _) (by decide) ?_
          refine w_pl (pl' := [some (.ref p), some (.int (nI f)), some (.int (nI m)), some (.int (nI (k + 1)))]) rfl ?_
          refine w_goto (tgt := 2) d_TR_countHexDigits_29 rfl ?_
          exact ih (k + 1) (by omega) (by omega) k3
        · rw [if_pos c21] at k3
          refine w_iload_n d_TR_countHexDigits_24 rfl ?_
          rw [← hEN]
          refine w_iret d_TR_countHexDigits_25 rfl ?_
          rw [← k3]
          exact ⟨rfl, rfl⟩
  refine w_iconst (v := nI 0) d_TR_countHexDigits_0 (by decide) ?_
  refine w_istore_n d_TR_countHexDigits_1 (by decide) ?_
  refine w_pl (pl' := [some (.ref p), some (.int (nI f)), some (.int (nI m)), some (.int (nI 0))]) rfl ?_
  exact L (m + 1) 0 (by omega) (Nat.zero_le _) rfl
set_option maxHeartbeats 4000000 in
set_option maxRecDepth 100000 in
theorem m_TR_hexValue {h : wH} {p pos : Nat} {t l : List Nat} {tk : List (Nat × Int32)} {f m : Nat} (hm : hTR h p t tk l pos) (hf : f < 2 ^ 20) (hm0 : m < 2 ^ 20) : PM X M_TR_hexValue 1 0 0 [.ref p, .int (nI f), .int (nI m)] h (fun r h' => r = some (.int (hvI t f m)) ∧ h' = h) := by
  have hhm := hm; obtain ⟨fk, fv, hp, htx, hkk, hvv, hlt, hl60, hfk⟩ := hm; have htx0 := htx; obtain ⟨tf, tp, ta, tl, thf⟩ := htx; have hlt0 := hlt; obtain ⟨lf, lp, la, ll, lhf⟩ := hlt
  refine PM.at (pl := [some (.ref p), some (.int (nI f)), some (.int (nI m)), none, none]) rfl rfl (by simp [wle, wen]) ?_
  generalize hEN : wEm X 0 0 _ = EN
  have L : ∀ (n : Nat) (k : Nat), (m - k < n) → (k ≤ m) → WP X M_TR_hexValue (wR 1 0 0) 0 EN 0 0 5 [some (.ref p), some (.int (nI f)), some (.int (nI m)), some (.int (hvI t f k)), some (.int (nI k))] [] h := by
    intro n
    induction n with
    | zero => intro k k1 k2; omega
    | succ n ih =>
      intro k k1 k2
      refine w_iload d_TR_hexValue_5 rfl ?_
      refine w_iload_n d_TR_hexValue_7 rfl ?_
      refine w_icmp_ge (tgt := 37) d_TR_hexValue_8 rfl (fun c8 => ?_) (fun c8 => ?_)
      · have c8 := (nI_leI (a := m) (b := k) (by omega) (by omega)).mp c8
        refine w_iload_n d_TR_hexValue_37 rfl ?_
        rw [← hEN]
        refine w_iret d_TR_hexValue_38 rfl ?_
        rw [show k = m by omega]
        exact ⟨rfl, rfl⟩
      · have c8 : k < m := Nat.not_le.mp (fun z => c8 ((nI_leI (a := m) (b := k) (by omega) (by omega)).mpr z))
        refine w_iload_n d_TR_hexValue_11 rfl ?_
        refine w_bipush (v := nI 16) d_TR_hexValue_12 (by decide) ?_
        refine w_imul d_TR_hexValue_14 ?_
        refine w_aload_n d_TR_hexValue_15 rfl rfl ?_
        refine w_get d_TR_hexValue_16 f_TR_12 hp rfl ?_
        refine w_iload_n d_TR_hexValue_19 rfl ?_
        refine w_iload d_TR_hexValue_20 rfl ?_
        refine w_iadd d_TR_hexValue_22 ?_
        refine w_topi (y := nI (f + k)) (nI_add _ _) ?_
        refine w_callV (as := [.int (nI (f + k))]) (st := [.int ((hvI t f k * nI 16))]) d_TR_hexValue_23 yM_CR_codeAt l_TR_43 vM_CR_codeAt tp rfl rfl rfl rfl (m_CR_codeN htx0 (by omega)) (by decide) (by decide) (by decide) (by decide) (Nat.le_of_ble_eq_true rfl) ?_
        rintro _ h9_1 ⟨rfl, e9_1⟩
        rw [e9_1]
        refine w_eq (st' := [.int (cA t (f + k)), .int ((hvI t f k * nI 16))]) rfl ?_
        refine w_callS (as := [.int (cA t (f + k))]) (st := [.int ((hvI t f k * nI 16))]) d_TR_hexValue_26 yM_TR_hexDigit l_TR_103 sM_TR_hexDigit rfl rfl (m_TR_hexDigit) (by decide) (by decide) (by decide) (by decide) (Nat.le_of_ble_eq_true rfl) ?_
        rintro _ h9_2 ⟨rfl, e9_2⟩
        rw [e9_2]
        refine w_eq (st' := [.int (hxI (cA t (f + k))), .int ((hvI t f k * nI 16))]) rfl ?_
        refine w_iadd d_TR_hexValue_29 ?_
        refine w_topi (y := hvI t f (k + 1)) rfl ?_
        refine w_istore_n d_TR_hexValue_30 (by decide) ?_
        refine w_pl (pl' := [some (.ref p), some (.int (nI f)), some (.int (nI m)), some (.int (hvI t f (k + 1))), some (.int (nI k))]) rfl ?_
        refine w_iinc (v := nI (k + 1)) d_TR_hexValue_31 rfl (nI_1 _) (by decide) ?_
        refine w_pl (pl' := [some (.ref p), some (.int (nI f)), some (.int (nI m)), some (.int (hvI t f (k + 1))), some (.int (nI (k + 1)))]) rfl ?_
        refine w_goto (tgt := 5) d_TR_hexValue_34 rfl ?_
        exact ih (k + 1) (by omega) (by omega)
  refine w_iconst (v := nI 0) d_TR_hexValue_0 (by decide) ?_
  refine w_istore_n d_TR_hexValue_1 (by decide) ?_
  refine w_pl (pl' := [some (.ref p), some (.int (nI f)), some (.int (nI m)), some (.int (nI 0)), none]) rfl ?_
  refine w_iconst (v := nI 0) d_TR_hexValue_2 (by decide) ?_
  refine w_istore d_TR_hexValue_3 (by decide) ?_
  refine w_pl (pl' := [some (.ref p), some (.int (nI f)), some (.int (nI m)), some (.int (nI 0)), some (.int (nI 0))]) rfl ?_
  exact L (m + 1) 0 (by omega) (Nat.zero_le _)
set_option maxHeartbeats 4000000 in
set_option maxRecDepth 100000 in
theorem m_TR_collectName {h : wH} {p pos : Nat} {t l : List Nat} {tk : List (Nat × Int32)} {f : Nat} (hm : hTR h p t tk l pos) (hf : f < 2 ^ 20) (ht31 : ∀ x ∈ t, x < 2 ^ 31) : PM X M_TR_collectName 1 0 0 [.ref p, .int (nI f)] h (fun r h' => r = some (.int (nI (nmR t (t.length - f) f []).1)) ∧ hTR h' p t tk (nmR t (t.length - f) f []).2 pos ∧ wOff h h' p 7) := by
  have hhm := hm; obtain ⟨fk, fv, hp, htx, hkk, hvv, hlt, hl60, hfk⟩ := hm; have htx0 := htx; obtain ⟨tf, tp, ta, tl, thf⟩ := htx; have hlt0 := hlt; obtain ⟨lf, lp, la, ll, lhf⟩ := hlt
  refine PM.at (pl := [some (.ref p), some (.int (nI f)), none, none]) rfl rfl (by simp [wle, wen]) ?_
  generalize hEN : wEm X 0 0 _ = EN
  have L : ∀ (n : Nat) (k : Nat) (l3 : List Nat) (h3 : wH), (t.length - k < n) → (k < 2 ^ 20 + 61) → (hTR h3 p t tk l3 pos) → (wOff h h3 p 7) → (nmR t (t.length - k) k l3 = nmR t (t.length - f) f []) → (l3.length ≤ k) → WP X M_TR_collectName (wR 1 0 0) 0 EN 0 0 9 [some (.ref p), some (.int (nI f)), some (.int (nI k)), none] [] h3 := by
    intro n
    induction n with
    | zero => intro k l3 h3 k1 k2 k3 k4 k5 k6; omega
    | succ n ih =>
      intro k l3 h3 k1 k2 k3 k4 k5 k6
      have xm := k3; obtain ⟨xfk, xfv, xhp, xtx, xhkk, xhvv, xlt, xl60, xhfk⟩ := xm; have xtx0 := xtx; obtain ⟨xtf, xtp, xta, xtl, xthf⟩ := xtx; have xlt0 := xlt; obtain ⟨xlf, xlp, xla, xll, xlhf⟩ := xlt
      refine w_iload_n d_TR_collectName_9 rfl ?_
      refine w_aload_n d_TR_collectName_10 rfl rfl ?_
      refine w_get d_TR_collectName_11 f_TR_12 xhp rfl ?_
      refine w_get d_TR_collectName_14 f_TR_46 xtp rfl ?_
      refine w_icmp_ge (tgt := 77) d_TR_collectName_17 rfl (fun c17 => ?_) (fun c17 => ?_)
      · have c17 := (nI_leI (a := t.length) (b := k) (by omega) (by omega)).mp c17
        refine w_aload_n d_TR_collectName_77 rfl rfl ?_
        refine w_get d_TR_collectName_78 f_TR_12 xhp rfl ?_
        refine w_get d_TR_collectName_81 f_TR_46 xtp rfl ?_
        rw [← hEN]
        refine w_iret d_TR_collectName_84 rfl ?_
        rw [show t.length - k = 0 by omega] at k5
        simp only [nmR] at k5
        rw [← k5]
        exact ⟨rfl, k3, k4⟩
      · have c17 : k < t.length := Nat.not_le.mp (fun z => c17 ((nI_leI (a := t.length) (b := k) (by omega) (by omega)).mpr z))
        obtain ⟨x, hx⟩ : ∃ x, t[k]? = some x := ⟨_, List.getElem?_eq_getElem c17⟩
        have hx31 := ht31 x (List.mem_of_getElem? hx)
        have hcA : cA t k = nI x := by unfold cA; rw [hx]
        rw [show t.length - k = (t.length - (k + 1)) + 1 by omega] at k5
        simp only [nmR, hx] at k5
        refine w_aload_n d_TR_collectName_20 rfl rfl ?_
        refine w_get d_TR_collectName_21 f_TR_12 xhp rfl ?_
        refine w_iload_n d_TR_collectName_24 rfl ?_
        refine w_callV (as := [.int (nI k)]) (st := []) d_TR_collectName_25 yM_CR_codeAt l_TR_43 vM_CR_codeAt xtp rfl rfl rfl rfl (m_CR_codeN xtx0 (by omega)) (by decide) (by decide) (by decide) (by decide) (Nat.le_of_ble_eq_true rfl) ?_
        rintro _ h9_1 ⟨rfl, e9_1⟩
        rw [e9_1]
        refine w_eq (st' := [.int (cA t k)]) rfl ?_
        refine w_topi (y := nI x) hcA ?_
        refine w_istore_n d_TR_collectName_28 (by decide) ?_
        refine w_pl (pl' := [some (.ref p), some (.int (nI f)), some (.int (nI k)), some (.int (nI x))]) rfl ?_
        refine w_iload_n d_TR_collectName_29 rfl ?_
        refine w_callS (as := [.int (nI x)]) (st := []) d_TR_collectName_30 yM_TR_isLetter l_TR_77 sM_TR_isLetter rfl rfl (m_TR_isLetter) (by decide) (by decide) (by decide) (by decide) (Nat.le_of_ble_eq_true rfl) ?_
        rintro _ h9_2 ⟨rfl, e9_2⟩
        rw [e9_2]
        refine w_eq (st' := [.int (bI (ltI (nI x)))]) rfl ?_
        refine w_if_eq (tgt := 51) d_TR_collectName_33 rfl (fun c33 => ?_) (fun c33 => ?_)
        · have c33 := bI_f c33
          rw [if_neg (by rw [c33]; decide)] at k5
          refine w_iload_n d_TR_collectName_51 rfl ?_
          refine w_bipush (v := nI 32) d_TR_collectName_52 (by decide) ?_
          suffices J71 : (x = 32 ∨ x = 95 ∨ x = 45) → WP X M_TR_collectName (wR 1 0 0) 0 EN 0 0 71 [some (.ref p), some (.int (nI f)), some (.int (nI k)), some (.int (nI x))] [] h3 by
            refine w_icmp_eq (tgt := 71) d_TR_collectName_54 rfl (fun c54 => ?_) (fun c54 => ?_)
            · have c54 : x = 32 := (nI_eq hx31 (by decide)).mp c54
              exact J71 (Or.inl c54)
            · have c54 : ¬ x = 32 := fun z => c54 (by rw [z])
              refine w_iload_n d_TR_collectName_57 rfl ?_
              refine w_bipush (v := nI 95) d_TR_collectName_58 (by decide) ?_
              refine w_icmp_eq (tgt := 71) d_TR_collectName_60 rfl (fun c60 => ?_) (fun c60 => ?_)
              · have c60 : x = 95 := (nI_eq hx31 (by decide)).mp c60
                exact J71 (Or.inr (Or.inl c60))
              · have c60 : ¬ x = 95 := fun z => c60 (by rw [z])
                refine w_iload_n d_TR_collectName_63 rfl ?_
                refine w_bipush (v := nI 45) d_TR_collectName_64 (by decide) ?_
                refine w_icmp_eq (tgt := 71) d_TR_collectName_66 rfl (fun c66 => ?_) (fun c66 => ?_)
                · have c66 : x = 45 := (nI_eq hx31 (by decide)).mp c66
                  exact J71 (Or.inr (Or.inr c66))
                · have c66 : ¬ x = 45 := fun z => c66 (by rw [z])
                  refine w_iload_n d_TR_collectName_69 rfl ?_
                  rw [← hEN]
                  refine w_iret d_TR_collectName_70 rfl ?_
                  rw [if_neg (by omega)] at k5
                  rw [← k5]
                  exact ⟨rfl, k3, k4⟩
          intro hsp
          rw [if_pos hsp] at k5
          refine w_iinc (v := nI (k + 1)) d_TR_collectName_71 rfl (nI_1 _) (by decide) ?_
          refine w_pl (pl' := [some (.ref p), some (.int (nI f)), some (.int (nI (k + 1))), some (.int (nI x))]) rfl ?_
          refine w_goto (tgt := 9) d_TR_collectName_74 rfl ?_
          refine w_le (pl' := [some (.ref p), some (.int (nI f)), some (.int (nI (k + 1))), none]) ⟨rfl, rfl, rfl, trivial⟩ ?_
          exact ih (k + 1) l3 h3 (by omega) (by omega) k3 k4 k5 (by omega)
        · have c33 := bI_t c33
          rw [if_pos c33] at k5
          refine w_aload_n d_TR_collectName_36 rfl rfl ?_
          refine w_get d_TR_collectName_37 f_TR_25 xhp rfl ?_
          refine w_iload_n d_TR_collectName_40 rfl ?_
          refine w_bipush (v := nI 32) d_TR_collectName_41 (by decide) ?_
          refine w_ior d_TR_collectName_43 ?_
          refine w_topi (y := nI (x ||| 32)) (nx_or _ _) ?_
          refine w_callV (as := [.int (nI (x ||| 32))]) (st := []) d_TR_collectName_44 yM_CR_append l_TR_94 vM_CR_append xlp rfl rfl rfl rfl (m_CR_append (x := x ||| 32) xlt0) (by decide) (by decide) (by decide) (by decide) (Nat.le_of_ble_eq_true rfl) ?_
          rintro _ h4 ⟨rfl, hr4, ho4⟩
          refine w_eq (st' := [.int (nI (if l3.length < 60 then 1 else 0))]) rfl ?_
          rw [if_pos (by omega)] at hr4
          refine w_pop d_TR_collectName_47 rfl ?_
          refine w_goto (tgt := 71) d_TR_collectName_48 rfl ?_
          refine w_iinc (v := nI (k + 1)) d_TR_collectName_71 rfl (nI_1 _) (by decide) ?_
          refine w_pl (pl' := [some (.ref p), some (.int (nI f)), some (.int (nI (k + 1))), some (.int (nI x))]) rfl ?_
          refine w_goto (tgt := 9) d_TR_collectName_74 rfl ?_
          refine w_le (pl' := [some (.ref p), some (.int (nI f)), some (.int (nI (k + 1))), none]) ⟨rfl, rfl, rfl, trivial⟩ ?_
          exact ih (k + 1) (l3 ++ [x ||| 32]) h4 (by omega) (by omega) (k3.letters hr4 ho4) (k4.tr (ho4.wide (by omega) (by omega))) k5 (by rw [List.length_append, List.length_singleton]; omega)
  refine w_aload_n d_TR_collectName_0 rfl rfl ?_
  refine w_get d_TR_collectName_1 f_TR_25 hp rfl ?_
  refine w_callV (as := []) (st := []) d_TR_collectName_4 yM_CR_clear l_TR_91 vM_CR_clear lp rfl rfl rfl rfl (m_CR_clear hlt0) (by decide) (by decide) (by decide) (by decide) (Nat.le_of_ble_eq_true rfl) ?_
  rintro _ h1 ⟨rfl, hr1, ho1⟩
  refine w_eq (st' := []) rfl ?_
  refine w_iload_n d_TR_collectName_7 rfl ?_
  refine w_istore_n d_TR_collectName_8 (by decide) ?_
  refine w_pl (pl' := [some (.ref p), some (.int (nI f)), some (.int (nI f)), none]) rfl ?_
  exact L (t.length + 1) f [] h1 (by omega) (by omega) (hhm.letters hr1 ho1) (ho1.wide (by omega) (by omega)) rfl (Nat.zero_le _)
end TR2
end
