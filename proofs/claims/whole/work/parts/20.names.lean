/-! methods of CA NS OB PW TR PR CP ST SL: written by wip/gen/mknames.py -/
def M_CA_collectAlikes : wM := (⟨"CodePointSets$CaseRules", "collectAlikes", "(LCodePointSets$MemberSet;LCodePointSets$MemberSet;)V"⟩, prog_2_method_2_code, 4, none)
set_option maxRecDepth 100000 in
theorem yM_CA_collectAlikes : wCy M_CA_collectAlikes 2 := ⟨wIn 570 rfl (by decide +kernel), wIn 15 (by decide +kernel) (by decide +kernel), by decide +kernel, by decide +kernel, by decide +kernel, by decide +kernel⟩
theorem sM_CA_collectAlikes : Cond.static M_CA_collectAlikes.1 ∈ wWL := wIn 569 (by decide +kernel) (by decide +kernel)
def M_CA_isAlikeToMember : wM := (⟨"CodePointSets$CaseRules", "isAlikeToMember", "(LCodePointSets$MemberSet;I)Z"⟩, prog_2_method_3_code, 6, (some (.boolean)))
set_option maxRecDepth 100000 in
theorem yM_CA_isAlikeToMember : wCy M_CA_isAlikeToMember 2 := ⟨wIn 576 rfl (by decide +kernel), wIn 15 (by decide +kernel) (by decide +kernel), by decide +kernel, by decide +kernel, by decide +kernel, by decide +kernel⟩
theorem sM_CA_isAlikeToMember : Cond.static M_CA_isAlikeToMember.1 ∈ wWL := wIn 575 (by decide +kernel) (by decide +kernel)
def M_CA_isLarge : wM := (⟨"CodePointSets$CaseRules", "isLarge", "(I)Z"⟩, prog_2_method_4_code, 2, (some (.boolean)))
set_option maxRecDepth 100000 in
theorem yM_CA_isLarge : wCy M_CA_isLarge 1 := ⟨wIn 579 rfl (by decide +kernel), wIn 15 (by decide +kernel) (by decide +kernel), by decide +kernel, by decide +kernel, by decide +kernel, by decide +kernel⟩
theorem sM_CA_isLarge : Cond.static M_CA_isLarge.1 ∈ wWL := wIn 578 (by decide +kernel) (by decide +kernel)
def M_NS_numberOf : wM := (⟨"CodePointSets$NamedSets", "numberOf", "(LCodePointSets$CodeRow;)I"⟩, prog_5_method_2_code, 2, (some (.int)))
set_option maxRecDepth 100000 in
theorem yM_NS_numberOf : wCy M_NS_numberOf 1 := ⟨wIn 275 rfl (by decide +kernel), wIn 10 (by decide +kernel) (by decide +kernel), by decide +kernel, by decide +kernel, by decide +kernel, by decide +kernel⟩
theorem sM_NS_numberOf : Cond.static M_NS_numberOf.1 ∈ wWL := wIn 274 (by decide +kernel) (by decide +kernel)
def M_NS_nameOf : wM := (⟨"CodePointSets$NamedSets", "nameOf", "(I)Ljava/lang/String;"⟩, prog_5_method_4_code, 1, (some (.object "java/lang/String")))
set_option maxRecDepth 100000 in
theorem yM_NS_nameOf : wCy M_NS_nameOf 1 := ⟨wIn 278 rfl (by decide +kernel), wIn 10 (by decide +kernel) (by decide +kernel), by decide +kernel, by decide +kernel, by decide +kernel, by decide +kernel⟩
theorem sM_NS_nameOf : Cond.static M_NS_nameOf.1 ∈ wWL := wIn 277 (by decide +kernel) (by decide +kernel)
def M_NS_isSame : wM := (⟨"CodePointSets$NamedSets", "isSame", "(LCodePointSets$CodeRow;Ljava/lang/String;)Z"⟩, prog_5_method_3_code, 3, (some (.boolean)))
set_option maxRecDepth 100000 in
theorem yM_NS_isSame : wCy M_NS_isSame 2 := ⟨wIn 291 rfl (by decide +kernel), wIn 10 (by decide +kernel) (by decide +kernel), by decide +kernel, by decide +kernel, by decide +kernel, by decide +kernel⟩
theorem sM_NS_isSame : Cond.static M_NS_isSame.1 ∈ wWL := wIn 290 (by decide +kernel) (by decide +kernel)
def M_NS_edgesOf : wM := (⟨"CodePointSets$NamedSets", "edgesOf", "(I)[I"⟩, prog_5_method_5_code, 1, (some (.array .int)))
set_option maxRecDepth 100000 in
theorem yM_NS_edgesOf : wCy M_NS_edgesOf 1 := ⟨wIn 449 rfl (by decide +kernel), wIn 10 (by decide +kernel) (by decide +kernel), by decide +kernel, by decide +kernel, by decide +kernel, by decide +kernel⟩
theorem sM_NS_edgesOf : Cond.static M_NS_edgesOf.1 ∈ wWL := wIn 448 (by decide +kernel) (by decide +kernel)
def M_OB_init : wM := (⟨"CodePointSets$OpenBracket", "<init>", "()V"⟩, prog_6_method_1_code, 1, none)
set_option maxRecDepth 100000 in
theorem yM_OB_init : wCy M_OB_init 0 := ⟨wIn 112 rfl (by decide +kernel), wIn 6 (by decide +kernel) (by decide +kernel), by decide +kernel, by decide +kernel, by decide +kernel, by decide +kernel⟩
theorem iM_OB_init : Cond.instanceMethod M_OB_init.1 ∈ wWL := wIn 111 (by decide +kernel) (by decide +kernel)
def M_OB_begin : wM := (⟨"CodePointSets$OpenBracket", "begin", "(Z)V"⟩, prog_6_method_2_code, 2, none)
set_option maxRecDepth 100000 in
theorem yM_OB_begin : wCy M_OB_begin 1 := ⟨wIn 392 rfl (by decide +kernel), wIn 6 (by decide +kernel) (by decide +kernel), by decide +kernel, by decide +kernel, by decide +kernel, by decide +kernel⟩
theorem vM_OB_begin : wCv M_OB_begin := ⟨wIn 390 (by decide +kernel) (by decide +kernel), wIn 391 (by decide +kernel) (by decide +kernel)⟩
def M_PW_init : wM := (⟨"CodePointSets$PatternWriter", "<init>", "()V"⟩, prog_8_method_1_code, 1, none)
set_option maxRecDepth 100000 in
theorem yM_PW_init : wCy M_PW_init 0 := ⟨wIn 165 rfl (by decide +kernel), wIn 7 (by decide +kernel) (by decide +kernel), by decide +kernel, by decide +kernel, by decide +kernel, by decide +kernel⟩
theorem iM_PW_init : Cond.instanceMethod M_PW_init.1 ∈ wWL := wIn 164 (by decide +kernel) (by decide +kernel)
def M_PW_writePattern : wM := (⟨"CodePointSets$PatternWriter", "writePattern", "(LCodePointSets$MemberSet;)Z"⟩, prog_8_method_2_code, 3, (some (.boolean)))
set_option maxRecDepth 100000 in
theorem yM_PW_writePattern : wCy M_PW_writePattern 1 := ⟨wIn 519 rfl (by decide +kernel), wIn 7 (by decide +kernel) (by decide +kernel), by decide +kernel, by decide +kernel, by decide +kernel, by decide +kernel⟩
theorem vM_PW_writePattern : wCv M_PW_writePattern := ⟨wIn 517 (by decide +kernel) (by decide +kernel), wIn 518 (by decide +kernel) (by decide +kernel)⟩
def M_PW_put : wM := (⟨"CodePointSets$PatternWriter", "put", "(I)V"⟩, prog_8_method_7_code, 2, none)
set_option maxRecDepth 100000 in
theorem yM_PW_put : wCy M_PW_put 1 := ⟨wIn 524 rfl (by decide +kernel), wIn 7 (by decide +kernel) (by decide +kernel), by decide +kernel, by decide +kernel, by decide +kernel, by decide +kernel⟩
theorem vM_PW_put : wCv M_PW_put := ⟨wIn 523 (by decide +kernel) (by decide +kernel), wSel (n := 2) (by decide +kernel)⟩
def M_PW_writeRange : wM := (⟨"CodePointSets$PatternWriter", "writeRange", "(II)V"⟩, prog_8_method_3_code, 3, none)
set_option maxRecDepth 100000 in
theorem yM_PW_writeRange : wCy M_PW_writeRange 2 := ⟨wIn 529 rfl (by decide +kernel), wIn 7 (by decide +kernel) (by decide +kernel), by decide +kernel, by decide +kernel, by decide +kernel, by decide +kernel⟩
theorem vM_PW_writeRange : wCv M_PW_writeRange := ⟨wIn 528 (by decide +kernel) (by decide +kernel), wSel (n := 2) (by decide +kernel)⟩
def M_PW_writeCode : wM := (⟨"CodePointSets$PatternWriter", "writeCode", "(I)V"⟩, prog_8_method_5_code, 2, none)
set_option maxRecDepth 100000 in
theorem yM_PW_writeCode : wCy M_PW_writeCode 1 := ⟨wIn 533 rfl (by decide +kernel), wIn 7 (by decide +kernel) (by decide +kernel), by decide +kernel, by decide +kernel, by decide +kernel, by decide +kernel⟩
theorem vM_PW_writeCode : wCv M_PW_writeCode := ⟨wIn 532 (by decide +kernel) (by decide +kernel), wSel (n := 2) (by decide +kernel)⟩
def M_PW_writeHex : wM := (⟨"CodePointSets$PatternWriter", "writeHex", "(I)V"⟩, prog_8_method_6_code, 4, none)
set_option maxRecDepth 100000 in
theorem yM_PW_writeHex : wCy M_PW_writeHex 1 := ⟨wIn 537 rfl (by decide +kernel), wIn 7 (by decide +kernel) (by decide +kernel), by decide +kernel, by decide +kernel, by decide +kernel, by decide +kernel⟩
theorem vM_PW_writeHex : wCv M_PW_writeHex := ⟨wIn 536 (by decide +kernel) (by decide +kernel), wSel (n := 2) (by decide +kernel)⟩
def M_PW_isSign : wM := (⟨"CodePointSets$PatternWriter", "isSign", "(I)Z"⟩, prog_8_method_8_code, 1, (some (.boolean)))
set_option maxRecDepth 100000 in
theorem yM_PW_isSign : wCy M_PW_isSign 1 := ⟨wIn 540 rfl (by decide +kernel), wIn 7 (by decide +kernel) (by decide +kernel), by decide +kernel, by decide +kernel, by decide +kernel, by decide +kernel⟩
theorem sM_PW_isSign : Cond.static M_PW_isSign.1 ∈ wWL := wIn 539 (by decide +kernel) (by decide +kernel)
def M_PW_writeString : wM := (⟨"CodePointSets$PatternWriter", "writeString", "(J)V"⟩, prog_8_method_4_code, 5, none)
set_option maxRecDepth 100000 in
theorem yM_PW_writeString : wCy M_PW_writeString 1 := ⟨wIn 544 rfl (by decide +kernel), wIn 7 (by decide +kernel) (by decide +kernel), by decide +kernel, by decide +kernel, by decide +kernel, by decide +kernel⟩
theorem vM_PW_writeString : wCv M_PW_writeString := ⟨wIn 543 (by decide +kernel) (by decide +kernel), wSel (n := 2) (by decide +kernel)⟩
def M_TR_init : wM := (⟨"CodePointSets$TokenRow", "<init>", "()V"⟩, prog_9_method_1_code, 1, none)
set_option maxRecDepth 100000 in
theorem yM_TR_init : wCy M_TR_init 0 := ⟨wIn 81 rfl (by decide +kernel), wIn 5 (by decide +kernel) (by decide +kernel), by decide +kernel, by decide +kernel, by decide +kernel, by decide +kernel⟩
theorem iM_TR_init : Cond.instanceMethod M_TR_init.1 ∈ wWL := wIn 80 (by decide +kernel) (by decide +kernel)
def M_TR_cutText : wM := (⟨"CodePointSets$TokenRow", "cutText", "(LCodePointSets$CodeRow;)Z"⟩, prog_9_method_5_code, 3, (some (.boolean)))
set_option maxRecDepth 100000 in
theorem yM_TR_cutText : wCy M_TR_cutText 1 := ⟨wIn 239 rfl (by decide +kernel), wIn 5 (by decide +kernel) (by decide +kernel), by decide +kernel, by decide +kernel, by decide +kernel, by decide +kernel⟩
theorem vM_TR_cutText : wCv M_TR_cutText := ⟨wIn 237 (by decide +kernel) (by decide +kernel), wIn 238 (by decide +kernel) (by decide +kernel)⟩
def M_TR_takeToken : wM := (⟨"CodePointSets$TokenRow", "takeToken", "()Z"⟩, prog_9_method_6_code, 2, (some (.boolean)))
set_option maxRecDepth 100000 in
theorem yM_TR_takeToken : wCy M_TR_takeToken 0 := ⟨wIn 251 rfl (by decide +kernel), wIn 5 (by decide +kernel) (by decide +kernel), by decide +kernel, by decide +kernel, by decide +kernel, by decide +kernel⟩
theorem vM_TR_takeToken : wCv M_TR_takeToken := ⟨wIn 250 (by decide +kernel) (by decide +kernel), wSel (n := 6) (by decide +kernel)⟩
def M_TR_takeOpening : wM := (⟨"CodePointSets$TokenRow", "takeOpening", "()Z"⟩, prog_9_method_7_code, 4, (some (.boolean)))
set_option maxRecDepth 100000 in
theorem yM_TR_takeOpening : wCy M_TR_takeOpening 0 := ⟨wIn 255 rfl (by decide +kernel), wIn 5 (by decide +kernel) (by decide +kernel), by decide +kernel, by decide +kernel, by decide +kernel, by decide +kernel⟩
theorem vM_TR_takeOpening : wCv M_TR_takeOpening := ⟨wIn 254 (by decide +kernel) (by decide +kernel), wSel (n := 6) (by decide +kernel)⟩
def M_TR_add : wM := (⟨"CodePointSets$TokenRow", "add", "(III)Z"⟩, prog_9_method_14_code, 4, (some (.boolean)))
set_option maxRecDepth 100000 in
theorem yM_TR_add : wCy M_TR_add 3 := ⟨wIn 259 rfl (by decide +kernel), wIn 5 (by decide +kernel) (by decide +kernel), by decide +kernel, by decide +kernel, by decide +kernel, by decide +kernel⟩
theorem vM_TR_add : wCv M_TR_add := ⟨wIn 258 (by decide +kernel) (by decide +kernel), wSel (n := 6) (by decide +kernel)⟩
def M_TR_collectName : wM := (⟨"CodePointSets$TokenRow", "collectName", "(I)I"⟩, prog_9_method_12_code, 4, (some (.int)))
set_option maxRecDepth 100000 in
theorem yM_TR_collectName : wCy M_TR_collectName 1 := ⟨wIn 263 rfl (by decide +kernel), wIn 5 (by decide +kernel) (by decide +kernel), by decide +kernel, by decide +kernel, by decide +kernel, by decide +kernel⟩
theorem vM_TR_collectName : wCv M_TR_collectName := ⟨wIn 262 (by decide +kernel) (by decide +kernel), wSel (n := 6) (by decide +kernel)⟩
def M_TR_isLetter : wM := (⟨"CodePointSets$TokenRow", "isLetter", "(I)Z"⟩, prog_9_method_18_code, 1, (some (.boolean)))
set_option maxRecDepth 100000 in
theorem yM_TR_isLetter : wCy M_TR_isLetter 1 := ⟨wIn 267 rfl (by decide +kernel), wIn 5 (by decide +kernel) (by decide +kernel), by decide +kernel, by decide +kernel, by decide +kernel, by decide +kernel⟩
theorem sM_TR_isLetter : Cond.static M_TR_isLetter.1 ∈ wWL := wIn 266 (by decide +kernel) (by decide +kernel)
def M_TR_addProperty : wM := (⟨"CodePointSets$TokenRow", "addProperty", "(ZI)Z"⟩, prog_9_method_13_code, 4, (some (.boolean)))
set_option maxRecDepth 100000 in
theorem yM_TR_addProperty : wCy M_TR_addProperty 2 := ⟨wIn 272 rfl (by decide +kernel), wIn 5 (by decide +kernel) (by decide +kernel), by decide +kernel, by decide +kernel, by decide +kernel, by decide +kernel⟩
theorem vM_TR_addProperty : wCv M_TR_addProperty := ⟨wIn 271 (by decide +kernel) (by decide +kernel), wSel (n := 6) (by decide +kernel)⟩
def M_TR_takeBracedName : wM := (⟨"CodePointSets$TokenRow", "takeBracedName", "()Z"⟩, prog_9_method_11_code, 2, (some (.boolean)))
set_option maxRecDepth 100000 in
theorem yM_TR_takeBracedName : wCy M_TR_takeBracedName 0 := ⟨wIn 343 rfl (by decide +kernel), wIn 5 (by decide +kernel) (by decide +kernel), by decide +kernel, by decide +kernel, by decide +kernel, by decide +kernel⟩
theorem vM_TR_takeBracedName : wCv M_TR_takeBracedName := ⟨wIn 342 (by decide +kernel) (by decide +kernel), wSel (n := 6) (by decide +kernel)⟩
def M_TR_takeEscape : wM := (⟨"CodePointSets$TokenRow", "takeEscape", "()Z"⟩, prog_9_method_8_code, 2, (some (.boolean)))
set_option maxRecDepth 100000 in
theorem yM_TR_takeEscape : wCy M_TR_takeEscape 0 := ⟨wIn 347 rfl (by decide +kernel), wIn 5 (by decide +kernel) (by decide +kernel), by decide +kernel, by decide +kernel, by decide +kernel, by decide +kernel⟩
theorem vM_TR_takeEscape : wCv M_TR_takeEscape := ⟨wIn 346 (by decide +kernel) (by decide +kernel), wSel (n := 6) (by decide +kernel)⟩
def M_TR_takeFourDigits : wM := (⟨"CodePointSets$TokenRow", "takeFourDigits", "()Z"⟩, prog_9_method_9_code, 2, (some (.boolean)))
set_option maxRecDepth 100000 in
theorem yM_TR_takeFourDigits : wCy M_TR_takeFourDigits 0 := ⟨wIn 351 rfl (by decide +kernel), wIn 5 (by decide +kernel) (by decide +kernel), by decide +kernel, by decide +kernel, by decide +kernel, by decide +kernel⟩
theorem vM_TR_takeFourDigits : wCv M_TR_takeFourDigits := ⟨wIn 350 (by decide +kernel) (by decide +kernel), wSel (n := 6) (by decide +kernel)⟩
def M_TR_countHexDigits : wM := (⟨"CodePointSets$TokenRow", "countHexDigits", "(II)I"⟩, prog_9_method_15_code, 4, (some (.int)))
set_option maxRecDepth 100000 in
theorem yM_TR_countHexDigits : wCy M_TR_countHexDigits 2 := ⟨wIn 355 rfl (by decide +kernel), wIn 5 (by decide +kernel) (by decide +kernel), by decide +kernel, by decide +kernel, by decide +kernel, by decide +kernel⟩
theorem vM_TR_countHexDigits : wCv M_TR_countHexDigits := ⟨wIn 354 (by decide +kernel) (by decide +kernel), wSel (n := 6) (by decide +kernel)⟩
def M_TR_hexDigit : wM := (⟨"CodePointSets$TokenRow", "hexDigit", "(I)I"⟩, prog_9_method_17_code, 1, (some (.int)))
set_option maxRecDepth 100000 in
theorem yM_TR_hexDigit : wCy M_TR_hexDigit 1 := ⟨wIn 358 rfl (by decide +kernel), wIn 5 (by decide +kernel) (by decide +kernel), by decide +kernel, by decide +kernel, by decide +kernel, by decide +kernel⟩
theorem sM_TR_hexDigit : Cond.static M_TR_hexDigit.1 ∈ wWL := wIn 357 (by decide +kernel) (by decide +kernel)
def M_TR_hexValue : wM := (⟨"CodePointSets$TokenRow", "hexValue", "(II)I"⟩, prog_9_method_16_code, 5, (some (.int)))
set_option maxRecDepth 100000 in
theorem yM_TR_hexValue : wCy M_TR_hexValue 2 := ⟨wIn 362 rfl (by decide +kernel), wIn 5 (by decide +kernel) (by decide +kernel), by decide +kernel, by decide +kernel, by decide +kernel, by decide +kernel⟩
theorem vM_TR_hexValue : wCv M_TR_hexValue := ⟨wIn 361 (by decide +kernel) (by decide +kernel), wSel (n := 6) (by decide +kernel)⟩
def M_TR_takeBracedDigits : wM := (⟨"CodePointSets$TokenRow", "takeBracedDigits", "()Z"⟩, prog_9_method_10_code, 4, (some (.boolean)))
set_option maxRecDepth 100000 in
theorem yM_TR_takeBracedDigits : wCy M_TR_takeBracedDigits 0 := ⟨wIn 366 rfl (by decide +kernel), wIn 5 (by decide +kernel) (by decide +kernel), by decide +kernel, by decide +kernel, by decide +kernel, by decide +kernel⟩
theorem vM_TR_takeBracedDigits : wCv M_TR_takeBracedDigits := ⟨wIn 365 (by decide +kernel) (by decide +kernel), wSel (n := 6) (by decide +kernel)⟩
def M_TR_kindAt : wM := (⟨"CodePointSets$TokenRow", "kindAt", "(I)I"⟩, prog_9_method_2_code, 2, (some (.int)))
set_option maxRecDepth 100000 in
theorem yM_TR_kindAt : wCy M_TR_kindAt 1 := ⟨wIn 379 rfl (by decide +kernel), wIn 5 (by decide +kernel) (by decide +kernel), by decide +kernel, by decide +kernel, by decide +kernel, by decide +kernel⟩
theorem vM_TR_kindAt : wCv M_TR_kindAt := ⟨wIn 377 (by decide +kernel) (by decide +kernel), wIn 378 (by decide +kernel) (by decide +kernel)⟩
def M_TR_beginsSet : wM := (⟨"CodePointSets$TokenRow", "beginsSet", "(I)Z"⟩, prog_9_method_4_code, 3, (some (.boolean)))
set_option maxRecDepth 100000 in
theorem yM_TR_beginsSet : wCy M_TR_beginsSet 1 := ⟨wIn 383 rfl (by decide +kernel), wIn 5 (by decide +kernel) (by decide +kernel), by decide +kernel, by decide +kernel, by decide +kernel, by decide +kernel⟩
theorem vM_TR_beginsSet : wCv M_TR_beginsSet := ⟨wIn 381 (by decide +kernel) (by decide +kernel), wIn 382 (by decide +kernel) (by decide +kernel)⟩
def M_TR_valueAt : wM := (⟨"CodePointSets$TokenRow", "valueAt", "(I)I"⟩, prog_9_method_3_code, 2, (some (.int)))
set_option maxRecDepth 100000 in
theorem yM_TR_valueAt : wCy M_TR_valueAt 1 := ⟨wIn 446 rfl (by decide +kernel), wIn 5 (by decide +kernel) (by decide +kernel), by decide +kernel, by decide +kernel, by decide +kernel, by decide +kernel⟩
theorem vM_TR_valueAt : wCv M_TR_valueAt := ⟨wIn 444 (by decide +kernel) (by decide +kernel), wIn 445 (by decide +kernel) (by decide +kernel)⟩
def M_PR_init : wM := (⟨"CodePointSets$PatternReader", "<init>", "()V"⟩, prog_7_method_1_code, 2, none)
set_option maxRecDepth 100000 in
theorem yM_PR_init : wCy M_PR_init 0 := ⟨wIn 75 rfl (by decide +kernel), wIn 4 (by decide +kernel) (by decide +kernel), by decide +kernel, by decide +kernel, by decide +kernel, by decide +kernel⟩
theorem iM_PR_init : Cond.instanceMethod M_PR_init.1 ∈ wWL := wIn 74 (by decide +kernel) (by decide +kernel)
def M_PR_readPattern : wM := (⟨"CodePointSets$PatternReader", "readPattern", "()Z"⟩, prog_7_method_2_code, 2, (some (.boolean)))
set_option maxRecDepth 100000 in
theorem yM_PR_readPattern : wCy M_PR_readPattern 0 := ⟨wIn 371 rfl (by decide +kernel), wIn 4 (by decide +kernel) (by decide +kernel), by decide +kernel, by decide +kernel, by decide +kernel, by decide +kernel⟩
theorem vM_PR_readPattern : wCv M_PR_readPattern := ⟨wIn 369 (by decide +kernel) (by decide +kernel), wIn 370 (by decide +kernel) (by decide +kernel)⟩
def M_PR_readPart : wM := (⟨"CodePointSets$PatternReader", "readPart", "()Z"⟩, prog_7_method_3_code, 2, (some (.boolean)))
set_option maxRecDepth 100000 in
theorem yM_PR_readPart : wCy M_PR_readPart 0 := ⟨wIn 375 rfl (by decide +kernel), wIn 4 (by decide +kernel) (by decide +kernel), by decide +kernel, by decide +kernel, by decide +kernel, by decide +kernel⟩
theorem vM_PR_readPart : wCv M_PR_readPart := ⟨wIn 374 (by decide +kernel) (by decide +kernel), wSel (n := 7) (by decide +kernel)⟩
def M_PR_openBracket : wM := (⟨"CodePointSets$PatternReader", "openBracket", "(Z)Z"⟩, prog_7_method_4_code, 2, (some (.boolean)))
set_option maxRecDepth 100000 in
theorem yM_PR_openBracket : wCy M_PR_openBracket 1 := ⟨wIn 388 rfl (by decide +kernel), wIn 4 (by decide +kernel) (by decide +kernel), by decide +kernel, by decide +kernel, by decide +kernel, by decide +kernel⟩
theorem vM_PR_openBracket : wCv M_PR_openBracket := ⟨wIn 387 (by decide +kernel) (by decide +kernel), wSel (n := 7) (by decide +kernel)⟩
def M_PR_endBracket : wM := (⟨"CodePointSets$PatternReader", "endBracket", "()Z"⟩, prog_7_method_5_code, 3, (some (.boolean)))
set_option maxRecDepth 100000 in
theorem yM_PR_endBracket : wCy M_PR_endBracket 0 := ⟨wIn 400 rfl (by decide +kernel), wIn 4 (by decide +kernel) (by decide +kernel), by decide +kernel, by decide +kernel, by decide +kernel, by decide +kernel⟩
theorem vM_PR_endBracket : wCv M_PR_endBracket := ⟨wIn 399 (by decide +kernel) (by decide +kernel), wSel (n := 7) (by decide +kernel)⟩
def M_PR_innermost : wM := (⟨"CodePointSets$PatternReader", "innermost", "()LCodePointSets$OpenBracket;"⟩, prog_7_method_13_code, 1, (some (.object "CodePointSets$OpenBracket")))
set_option maxRecDepth 100000 in
theorem yM_PR_innermost : wCy M_PR_innermost 0 := ⟨wIn 404 rfl (by decide +kernel), wIn 4 (by decide +kernel) (by decide +kernel), by decide +kernel, by decide +kernel, by decide +kernel, by decide +kernel⟩
theorem vM_PR_innermost : wCv M_PR_innermost := ⟨wIn 403 (by decide +kernel) (by decide +kernel), wSel (n := 7) (by decide +kernel)⟩
def M_PR_join : wM := (⟨"CodePointSets$PatternReader", "join", "(LCodePointSets$MemberSet;Z)Z"⟩, prog_7_method_12_code, 5, (some (.boolean)))
set_option maxRecDepth 100000 in
theorem yM_PR_join : wCy M_PR_join 2 := ⟨wIn 418 rfl (by decide +kernel), wIn 4 (by decide +kernel) (by decide +kernel), by decide +kernel, by decide +kernel, by decide +kernel, by decide +kernel⟩
theorem vM_PR_join : wCv M_PR_join := ⟨wIn 417 (by decide +kernel) (by decide +kernel), wSel (n := 7) (by decide +kernel)⟩
def M_PR_readProperty : wM := (⟨"CodePointSets$PatternReader", "readProperty", "(Z)Z"⟩, prog_7_method_6_code, 3, (some (.boolean)))
set_option maxRecDepth 100000 in
theorem yM_PR_readProperty : wCy M_PR_readProperty 1 := ⟨wIn 442 rfl (by decide +kernel), wIn 4 (by decide +kernel) (by decide +kernel), by decide +kernel, by decide +kernel, by decide +kernel, by decide +kernel⟩
theorem vM_PR_readProperty : wCv M_PR_readProperty := ⟨wIn 441 (by decide +kernel) (by decide +kernel), wSel (n := 7) (by decide +kernel)⟩
def M_PR_readString : wM := (⟨"CodePointSets$PatternReader", "readString", "()Z"⟩, prog_7_method_7_code, 4, (some (.boolean)))
set_option maxRecDepth 100000 in
theorem yM_PR_readString : wCy M_PR_readString 0 := ⟨wIn 477 rfl (by decide +kernel), wIn 4 (by decide +kernel) (by decide +kernel), by decide +kernel, by decide +kernel, by decide +kernel, by decide +kernel⟩
theorem vM_PR_readString : wCv M_PR_readString := ⟨wIn 476 (by decide +kernel) (by decide +kernel), wSel (n := 7) (by decide +kernel)⟩
def M_PR_takeRange : wM := (⟨"CodePointSets$PatternReader", "takeRange", "(III)V"⟩, prog_7_method_11_code, 4, none)
set_option maxRecDepth 100000 in
theorem yM_PR_takeRange : wCy M_PR_takeRange 3 := ⟨wIn 481 rfl (by decide +kernel), wIn 4 (by decide +kernel) (by decide +kernel), by decide +kernel, by decide +kernel, by decide +kernel, by decide +kernel⟩
theorem vM_PR_takeRange : wCv M_PR_takeRange := ⟨wIn 480 (by decide +kernel) (by decide +kernel), wSel (n := 7) (by decide +kernel)⟩
def M_PR_readChar : wM := (⟨"CodePointSets$PatternReader", "readChar", "()Z"⟩, prog_7_method_8_code, 3, (some (.boolean)))
set_option maxRecDepth 100000 in
theorem yM_PR_readChar : wCy M_PR_readChar 0 := ⟨wIn 497 rfl (by decide +kernel), wIn 4 (by decide +kernel) (by decide +kernel), by decide +kernel, by decide +kernel, by decide +kernel, by decide +kernel⟩
theorem vM_PR_readChar : wCv M_PR_readChar := ⟨wIn 496 (by decide +kernel) (by decide +kernel), wSel (n := 7) (by decide +kernel)⟩
def M_PR_readHyphen : wM := (⟨"CodePointSets$PatternReader", "readHyphen", "()Z"⟩, prog_7_method_9_code, 1, (some (.boolean)))
set_option maxRecDepth 100000 in
theorem yM_PR_readHyphen : wCy M_PR_readHyphen 0 := ⟨wIn 501 rfl (by decide +kernel), wIn 4 (by decide +kernel) (by decide +kernel), by decide +kernel, by decide +kernel, by decide +kernel, by decide +kernel⟩
theorem vM_PR_readHyphen : wCv M_PR_readHyphen := ⟨wIn 500 (by decide +kernel) (by decide +kernel), wSel (n := 7) (by decide +kernel)⟩
def M_PR_readSign : wM := (⟨"CodePointSets$PatternReader", "readSign", "(I)Z"⟩, prog_7_method_10_code, 3, (some (.boolean)))
set_option maxRecDepth 100000 in
theorem yM_PR_readSign : wCy M_PR_readSign 1 := ⟨wIn 505 rfl (by decide +kernel), wIn 4 (by decide +kernel) (by decide +kernel), by decide +kernel, by decide +kernel, by decide +kernel, by decide +kernel⟩
theorem vM_PR_readSign : wCv M_PR_readSign := ⟨wIn 504 (by decide +kernel) (by decide +kernel), wSel (n := 7) (by decide +kernel)⟩
def M_CP_init : wM := (⟨"CodePointSets", "<init>", "()V"⟩, prog_1_method_1_code, 2, none)
set_option maxRecDepth 100000 in
theorem yM_CP_init : wCy M_CP_init 0 := ⟨wIn 20 rfl (by decide +kernel), wIn 1 (by decide +kernel) (by decide +kernel), by decide +kernel, by decide +kernel, by decide +kernel, by decide +kernel⟩
theorem iM_CP_init : Cond.instanceMethod M_CP_init.1 ∈ wWL := wIn 19 (by decide +kernel) (by decide +kernel)
def M_CP_type : wM := (⟨"CodePointSets", "type", "(I)Z"⟩, prog_1_method_2_code, 2, (some (.boolean)))
set_option maxRecDepth 100000 in
theorem yM_CP_type : wCy M_CP_type 1 := ⟨wIn 199 rfl (by decide +kernel), wIn 1 (by decide +kernel) (by decide +kernel), by decide +kernel, by decide +kernel, by decide +kernel, by decide +kernel⟩
theorem vM_CP_type : wCv M_CP_type := ⟨wIn 197 (by decide +kernel) (by decide +kernel), wIn 198 (by decide +kernel) (by decide +kernel)⟩
def M_CP_isCodePoint : wM := (⟨"CodePointSets", "isCodePoint", "(I)Z"⟩, prog_1_method_24_code, 1, (some (.boolean)))
set_option maxRecDepth 100000 in
theorem yM_CP_isCodePoint : wCy M_CP_isCodePoint 1 := ⟨wIn 202 rfl (by decide +kernel), wIn 1 (by decide +kernel) (by decide +kernel), by decide +kernel, by decide +kernel, by decide +kernel, by decide +kernel⟩
theorem sM_CP_isCodePoint : Cond.static M_CP_isCodePoint.1 ∈ wWL := wIn 201 (by decide +kernel) (by decide +kernel)
def M_CP_wipe : wM := (⟨"CodePointSets", "wipe", "()V"⟩, prog_1_method_3_code, 1, none)
set_option maxRecDepth 100000 in
theorem yM_CP_wipe : wCy M_CP_wipe 0 := ⟨wIn 211 rfl (by decide +kernel), wIn 1 (by decide +kernel) (by decide +kernel), by decide +kernel, by decide +kernel, by decide +kernel, by decide +kernel⟩
theorem vM_CP_wipe : wCv M_CP_wipe := ⟨wIn 209 (by decide +kernel) (by decide +kernel), wIn 210 (by decide +kernel) (by decide +kernel)⟩
def M_CP_length : wM := (⟨"CodePointSets", "length", "()I"⟩, prog_1_method_4_code, 1, (some (.int)))
set_option maxRecDepth 100000 in
theorem yM_CP_length : wCy M_CP_length 0 := ⟨wIn 219 rfl (by decide +kernel), wIn 1 (by decide +kernel) (by decide +kernel), by decide +kernel, by decide +kernel, by decide +kernel, by decide +kernel⟩
theorem vM_CP_length : wCv M_CP_length := ⟨wIn 217 (by decide +kernel) (by decide +kernel), wIn 218 (by decide +kernel) (by decide +kernel)⟩
def M_CP_at : wM := (⟨"CodePointSets", "at", "(I)I"⟩, prog_1_method_5_code, 2, (some (.int)))
set_option maxRecDepth 100000 in
theorem yM_CP_at : wCy M_CP_at 1 := ⟨wIn 223 rfl (by decide +kernel), wIn 1 (by decide +kernel) (by decide +kernel), by decide +kernel, by decide +kernel, by decide +kernel, by decide +kernel⟩
theorem vM_CP_at : wCv M_CP_at := ⟨wIn 221 (by decide +kernel) (by decide +kernel), wIn 222 (by decide +kernel) (by decide +kernel)⟩
def M_CP_apply : wM := (⟨"CodePointSets", "apply", "(I)Z"⟩, prog_1_method_6_code, 3, (some (.boolean)))
set_option maxRecDepth 100000 in
theorem yM_CP_apply : wCy M_CP_apply 1 := ⟨wIn 231 rfl (by decide +kernel), wIn 1 (by decide +kernel) (by decide +kernel), by decide +kernel, by decide +kernel, by decide +kernel, by decide +kernel⟩
theorem vM_CP_apply : wCv M_CP_apply := ⟨wIn 229 (by decide +kernel) (by decide +kernel), wIn 230 (by decide +kernel) (by decide +kernel)⟩
def M_CP_registerAt : wM := (⟨"CodePointSets", "registerAt", "(I)LCodePointSets$MemberSet;"⟩, prog_1_method_22_code, 2, (some (.object "CodePointSets$MemberSet")))
set_option maxRecDepth 100000 in
theorem yM_CP_registerAt : wCy M_CP_registerAt 1 := ⟨wIn 235 rfl (by decide +kernel), wIn 1 (by decide +kernel) (by decide +kernel), by decide +kernel, by decide +kernel, by decide +kernel, by decide +kernel⟩
theorem vM_CP_registerAt : wCv M_CP_registerAt := ⟨wIn 234 (by decide +kernel) (by decide +kernel), wSel (n := 6) (by decide +kernel)⟩
def M_CP_print : wM := (⟨"CodePointSets", "print", "(I)I"⟩, prog_1_method_7_code, 3, (some (.int)))
set_option maxRecDepth 100000 in
theorem yM_CP_print : wCy M_CP_print 1 := ⟨wIn 515 rfl (by decide +kernel), wIn 1 (by decide +kernel) (by decide +kernel), by decide +kernel, by decide +kernel, by decide +kernel, by decide +kernel⟩
theorem vM_CP_print : wCv M_CP_print := ⟨wIn 513 (by decide +kernel) (by decide +kernel), wIn 514 (by decide +kernel) (by decide +kernel)⟩
def M_CP_combine : wM := (⟨"CodePointSets", "combine", "(III)Z"⟩, prog_1_method_8_code, 6, (some (.boolean)))
set_option maxRecDepth 100000 in
theorem yM_CP_combine : wCy M_CP_combine 3 := ⟨wIn 553 rfl (by decide +kernel), wIn 1 (by decide +kernel) (by decide +kernel), by decide +kernel, by decide +kernel, by decide +kernel, by decide +kernel⟩
theorem vM_CP_combine : wCv M_CP_combine := ⟨wIn 551 (by decide +kernel) (by decide +kernel), wIn 552 (by decide +kernel) (by decide +kernel)⟩
def M_CP_keepSpare : wM := (⟨"CodePointSets", "keepSpare", "(I)Z"⟩, prog_1_method_23_code, 3, (some (.boolean)))
set_option maxRecDepth 100000 in
theorem yM_CP_keepSpare : wCy M_CP_keepSpare 1 := ⟨wIn 558 rfl (by decide +kernel), wIn 1 (by decide +kernel) (by decide +kernel), by decide +kernel, by decide +kernel, by decide +kernel, by decide +kernel⟩
theorem vM_CP_keepSpare : wCv M_CP_keepSpare := ⟨wIn 557 (by decide +kernel) (by decide +kernel), wSel (n := 6) (by decide +kernel)⟩
def M_CP_turn : wM := (⟨"CodePointSets", "turn", "(I)Z"⟩, prog_1_method_9_code, 3, (some (.boolean)))
set_option maxRecDepth 100000 in
theorem yM_CP_turn : wCy M_CP_turn 1 := ⟨wIn 562 rfl (by decide +kernel), wIn 1 (by decide +kernel) (by decide +kernel), by decide +kernel, by decide +kernel, by decide +kernel, by decide +kernel⟩
theorem vM_CP_turn : wCv M_CP_turn := ⟨wIn 560 (by decide +kernel) (by decide +kernel), wIn 561 (by decide +kernel) (by decide +kernel)⟩
def M_CP_close : wM := (⟨"CodePointSets", "close", "(I)I"⟩, prog_1_method_10_code, 4, (some (.int)))
set_option maxRecDepth 100000 in
theorem yM_CP_close : wCy M_CP_close 1 := ⟨wIn 567 rfl (by decide +kernel), wIn 1 (by decide +kernel) (by decide +kernel), by decide +kernel, by decide +kernel, by decide +kernel, by decide +kernel⟩
theorem vM_CP_close : wCv M_CP_close := ⟨wIn 565 (by decide +kernel) (by decide +kernel), wIn 566 (by decide +kernel) (by decide +kernel)⟩
def M_CP_contains : wM := (⟨"CodePointSets", "contains", "(II)Z"⟩, prog_1_method_11_code, 4, (some (.boolean)))
set_option maxRecDepth 100000 in
theorem yM_CP_contains : wCy M_CP_contains 2 := ⟨wIn 596 rfl (by decide +kernel), wIn 1 (by decide +kernel) (by decide +kernel), by decide +kernel, by decide +kernel, by decide +kernel, by decide +kernel⟩
theorem vM_CP_contains : wCv M_CP_contains := ⟨wIn 594 (by decide +kernel) (by decide +kernel), wIn 595 (by decide +kernel) (by decide +kernel)⟩
def M_CP_has : wM := (⟨"CodePointSets", "has", "(I)Z"⟩, prog_1_method_12_code, 3, (some (.boolean)))
set_option maxRecDepth 100000 in
theorem yM_CP_has : wCy M_CP_has 1 := ⟨wIn 601 rfl (by decide +kernel), wIn 1 (by decide +kernel) (by decide +kernel), by decide +kernel, by decide +kernel, by decide +kernel, by decide +kernel⟩
theorem vM_CP_has : wCv M_CP_has := ⟨wIn 599 (by decide +kernel) (by decide +kernel), wIn 600 (by decide +kernel) (by decide +kernel)⟩
def M_CP_textIsMember : wM := (⟨"CodePointSets", "textIsMember", "(LCodePointSets$MemberSet;II)Z"⟩, prog_1_method_21_code, 6, (some (.boolean)))
set_option maxRecDepth 100000 in
theorem yM_CP_textIsMember : wCy M_CP_textIsMember 3 := ⟨wIn 605 rfl (by decide +kernel), wIn 1 (by decide +kernel) (by decide +kernel), by decide +kernel, by decide +kernel, by decide +kernel, by decide +kernel⟩
theorem vM_CP_textIsMember : wCv M_CP_textIsMember := ⟨wIn 604 (by decide +kernel) (by decide +kernel), wSel (n := 6) (by decide +kernel)⟩
def M_CP_includes : wM := (⟨"CodePointSets", "includes", "(II)Z"⟩, prog_1_method_13_code, 5, (some (.boolean)))
set_option maxRecDepth 100000 in
theorem yM_CP_includes : wCy M_CP_includes 2 := ⟨wIn 614 rfl (by decide +kernel), wIn 1 (by decide +kernel) (by decide +kernel), by decide +kernel, by decide +kernel, by decide +kernel, by decide +kernel⟩
theorem vM_CP_includes : wCv M_CP_includes := ⟨wIn 612 (by decide +kernel) (by decide +kernel), wIn 613 (by decide +kernel) (by decide +kernel)⟩
def M_CP_size : wM := (⟨"CodePointSets", "size", "(I)I"⟩, prog_1_method_14_code, 3, (some (.int)))
set_option maxRecDepth 100000 in
theorem yM_CP_size : wCy M_CP_size 1 := ⟨wIn 618 rfl (by decide +kernel), wIn 1 (by decide +kernel) (by decide +kernel), by decide +kernel, by decide +kernel, by decide +kernel, by decide +kernel⟩
theorem vM_CP_size : wCv M_CP_size := ⟨wIn 616 (by decide +kernel) (by decide +kernel), wIn 617 (by decide +kernel) (by decide +kernel)⟩
def M_CP_strings : wM := (⟨"CodePointSets", "strings", "(I)I"⟩, prog_1_method_15_code, 3, (some (.int)))
set_option maxRecDepth 100000 in
theorem yM_CP_strings : wCy M_CP_strings 1 := ⟨wIn 622 rfl (by decide +kernel), wIn 1 (by decide +kernel) (by decide +kernel), by decide +kernel, by decide +kernel, by decide +kernel, by decide +kernel⟩
theorem vM_CP_strings : wCv M_CP_strings := ⟨wIn 620 (by decide +kernel) (by decide +kernel), wIn 621 (by decide +kernel) (by decide +kernel)⟩
def M_CP_edge : wM := (⟨"CodePointSets", "edge", "(II)I"⟩, prog_1_method_16_code, 4, (some (.int)))
set_option maxRecDepth 100000 in
theorem yM_CP_edge : wCy M_CP_edge 2 := ⟨wIn 626 rfl (by decide +kernel), wIn 1 (by decide +kernel) (by decide +kernel), by decide +kernel, by decide +kernel, by decide +kernel, by decide +kernel⟩
theorem vM_CP_edge : wCv M_CP_edge := ⟨wIn 624 (by decide +kernel) (by decide +kernel), wIn 625 (by decide +kernel) (by decide +kernel)⟩
def M_CP_nth : wM := (⟨"CodePointSets", "nth", "(II)I"⟩, prog_1_method_17_code, 4, (some (.int)))
set_option maxRecDepth 100000 in
theorem yM_CP_nth : wCy M_CP_nth 2 := ⟨wIn 630 rfl (by decide +kernel), wIn 1 (by decide +kernel) (by decide +kernel), by decide +kernel, by decide +kernel, by decide +kernel, by decide +kernel⟩
theorem vM_CP_nth : wCv M_CP_nth := ⟨wIn 628 (by decide +kernel) (by decide +kernel), wIn 629 (by decide +kernel) (by decide +kernel)⟩
def M_CP_span : wM := (⟨"CodePointSets", "span", "(IIZ)I"⟩, prog_1_method_18_code, 5, (some (.int)))
set_option maxRecDepth 100000 in
theorem yM_CP_span : wCy M_CP_span 3 := ⟨wIn 638 rfl (by decide +kernel), wIn 1 (by decide +kernel) (by decide +kernel), by decide +kernel, by decide +kernel, by decide +kernel, by decide +kernel⟩
theorem vM_CP_span : wCv M_CP_span := ⟨wIn 636 (by decide +kernel) (by decide +kernel), wIn 637 (by decide +kernel) (by decide +kernel)⟩
def M_CP_endOfMembers : wM := (⟨"CodePointSets", "endOfMembers", "(LCodePointSets$MemberSet;I)I"⟩, prog_1_method_19_code, 8, (some (.int)))
set_option maxRecDepth 100000 in
theorem yM_CP_endOfMembers : wCy M_CP_endOfMembers 2 := ⟨wIn 642 rfl (by decide +kernel), wIn 1 (by decide +kernel) (by decide +kernel), by decide +kernel, by decide +kernel, by decide +kernel, by decide +kernel⟩
theorem vM_CP_endOfMembers : wCv M_CP_endOfMembers := ⟨wIn 641 (by decide +kernel) (by decide +kernel), wSel (n := 6) (by decide +kernel)⟩
def M_CP_beginOfMember : wM := (⟨"CodePointSets", "beginOfMember", "(LCodePointSets$MemberSet;I)I"⟩, prog_1_method_20_code, 5, (some (.int)))
set_option maxRecDepth 100000 in
theorem yM_CP_beginOfMember : wCy M_CP_beginOfMember 2 := ⟨wIn 646 rfl (by decide +kernel), wIn 1 (by decide +kernel) (by decide +kernel), by decide +kernel, by decide +kernel, by decide +kernel, by decide +kernel⟩
theorem vM_CP_beginOfMember : wCv M_CP_beginOfMember := ⟨wIn 645 (by decide +kernel) (by decide +kernel), wSel (n := 6) (by decide +kernel)⟩
def M_ST_length : wM := (⟨"java/lang/String", "length", "()I"⟩, prog_12_method_54_code, 1, (some (.int)))
set_option maxRecDepth 100000 in
theorem yM_ST_length : wCy M_ST_length 0 := ⟨wIn 295 rfl (by decide +kernel), wIn 11 (by decide +kernel) (by decide +kernel), by decide +kernel, by decide +kernel, by decide +kernel, by decide +kernel⟩
theorem vM_ST_length : wCv M_ST_length := ⟨wIn 293 (by decide +kernel) (by decide +kernel), wIn 294 (by decide +kernel) (by decide +kernel)⟩
def M_ST_coder : wM := (⟨"java/lang/String", "coder", "()B"⟩, prog_12_method_152_code, 1, (some (.byte)))
set_option maxRecDepth 100000 in
theorem yM_ST_coder : wCy M_ST_coder 0 := ⟨wIn 299 rfl (by decide +kernel), wIn 11 (by decide +kernel) (by decide +kernel), by decide +kernel, by decide +kernel, by decide +kernel, by decide +kernel⟩
theorem vM_ST_coder : wCv M_ST_coder := ⟨wIn 297 (by decide +kernel) (by decide +kernel), wIn 298 (by decide +kernel) (by decide +kernel)⟩
def M_ST_charAt : wM := (⟨"java/lang/String", "charAt", "(I)C"⟩, prog_12_method_56_code, 2, (some (.char)))
set_option maxRecDepth 100000 in
theorem yM_ST_charAt : wCy M_ST_charAt 1 := ⟨wIn 305 rfl (by decide +kernel), wIn 11 (by decide +kernel) (by decide +kernel), by decide +kernel, by decide +kernel, by decide +kernel, by decide +kernel⟩
theorem vM_ST_charAt : wCv M_ST_charAt := ⟨wIn 303 (by decide +kernel) (by decide +kernel), wIn 304 (by decide +kernel) (by decide +kernel)⟩
def M_ST_isLatin1 : wM := (⟨"java/lang/String", "isLatin1", "()Z"⟩, prog_12_method_154_code, 1, (some (.boolean)))
set_option maxRecDepth 100000 in
theorem yM_ST_isLatin1 : wCy M_ST_isLatin1 0 := ⟨wIn 309 rfl (by decide +kernel), wIn 11 (by decide +kernel) (by decide +kernel), by decide +kernel, by decide +kernel, by decide +kernel, by decide +kernel⟩
theorem vM_ST_isLatin1 : wCv M_ST_isLatin1 := ⟨wIn 307 (by decide +kernel) (by decide +kernel), wIn 308 (by decide +kernel) (by decide +kernel)⟩
def M_ST_checkIndex : wM := (⟨"java/lang/String", "checkIndex", "(II)V"⟩, prog_12_method_155_code, 2, none)
set_option maxRecDepth 100000 in
theorem yM_ST_checkIndex : wCy M_ST_checkIndex 2 := ⟨wIn 315 rfl (by decide +kernel), wIn 11 (by decide +kernel) (by decide +kernel), by decide +kernel, by decide +kernel, by decide +kernel, by decide +kernel⟩
theorem sM_ST_checkIndex : Cond.static M_ST_checkIndex.1 ∈ wWL := wIn 314 (by decide +kernel) (by decide +kernel)
def M_SL_charAt : wM := (⟨"java/lang/StringLatin1", "charAt", "([BI)C"⟩, prog_13_method_2_code, 2, (some (.char)))
set_option maxRecDepth 100000 in
theorem yM_SL_charAt : wCy M_SL_charAt 2 := ⟨wIn 312 rfl (by decide +kernel), wIn 12 (by decide +kernel) (by decide +kernel), by decide +kernel, by decide +kernel, by decide +kernel, by decide +kernel⟩
theorem sM_SL_charAt : Cond.static M_SL_charAt.1 ∈ wWL := wIn 311 (by decide +kernel) (by decide +kernel)
/-! links of the pools of CA NS OB PW TR PR CP ST SL: written by wip/gen/mknames.py -/
theorem l_CA_7 : wCl "CodePointSets$CaseRules" 7 M_MS_clear := Or.inl (wIn 571 (by decide +kernel) (by decide +kernel))
theorem g_CA_12 : Cond.fieldLink "CodePointSets$CaseRules" 12 "CodePointSets$CaseRules" "CASED" "[I" ∈ wWL := wIn 572 (by decide +kernel) (by decide +kernel)
theorem l_CA_18 : wCl "CodePointSets$CaseRules" 18 M_CA_isAlikeToMember := Or.inl (wIn 574 (by decide +kernel) (by decide +kernel))
theorem l_CA_26 : wCl "CodePointSets$CaseRules" 26 M_CA_isLarge := Or.inl (wIn 577 (by decide +kernel) (by decide +kernel))
theorem g_CA_36 : Cond.fieldLink "CodePointSets$CaseRules" 36 "CodePointSets$CaseRules" "LARGE" "[I" ∈ wWL := wIn 580 (by decide +kernel) (by decide +kernel)
theorem l_CA_30 : wCl "CodePointSets$CaseRules" 30 M_MS_holdsCode := Or.inl (wIn 582 (by decide +kernel) (by decide +kernel))
theorem g_CA_33 : Cond.fieldLink "CodePointSets$CaseRules" 33 "CodePointSets$CaseRules" "TRIPLES" "[I" ∈ wWL := wIn 586 (by decide +kernel) (by decide +kernel)
theorem l_CA_22 : wCl "CodePointSets$CaseRules" 22 M_MS_appendRange := Or.inl (wIn 588 (by decide +kernel) (by decide +kernel))
theorem f_NS_31 : wF "CodePointSets$NamedSets" 31 0 0 := ⟨("CodePointSets$CodeRow", wT_CR, 2), rfl, by decide, Or.inr ⟨"CodePointSets", by decide +kernel⟩⟩
theorem f_NS_19 : wF "CodePointSets$NamedSets" 19 0 1 := ⟨("CodePointSets$CodeRow", wT_CR, 2), rfl, by decide, Or.inr ⟨"CodePointSets", by decide +kernel⟩⟩
theorem l_NS_11 : wCl "CodePointSets$NamedSets" 11 M_NS_nameOf := Or.inl (wIn 276 (by decide +kernel) (by decide +kernel))
theorem l_NS_15 : wCl "CodePointSets$NamedSets" 15 M_NS_isSame := Or.inl (wIn 289 (by decide +kernel) (by decide +kernel))
theorem l_NS_25 : wCl "CodePointSets$NamedSets" 25 M_ST_length := Or.inl (wIn 292 (by decide +kernel) (by decide +kernel))
theorem l_NS_35 : wCl "CodePointSets$NamedSets" 35 M_ST_charAt := Or.inl (wIn 302 (by decide +kernel) (by decide +kernel))
theorem g_NS_59 : Cond.fieldLink "CodePointSets$NamedSets" 59 "CodePointSets$NamedSets" "ANY" "[I" ∈ wWL := wIn 450 (by decide +kernel) (by decide +kernel)
theorem g_NS_62 : Cond.fieldLink "CodePointSets$NamedSets" 62 "CodePointSets$NamedSets" "ASCII" "[I" ∈ wWL := wIn 452 (by decide +kernel) (by decide +kernel)
theorem g_NS_65 : Cond.fieldLink "CodePointSets$NamedSets" 65 "CodePointSets$NamedSets" "DIGIT" "[I" ∈ wWL := wIn 454 (by decide +kernel) (by decide +kernel)
theorem g_NS_68 : Cond.fieldLink "CodePointSets$NamedSets" 68 "CodePointSets$NamedSets" "HEX_DIGIT" "[I" ∈ wWL := wIn 456 (by decide +kernel) (by decide +kernel)
theorem g_NS_71 : Cond.fieldLink "CodePointSets$NamedSets" 71 "CodePointSets$NamedSets" "UPPER" "[I" ∈ wWL := wIn 458 (by decide +kernel) (by decide +kernel)
theorem g_NS_74 : Cond.fieldLink "CodePointSets$NamedSets" 74 "CodePointSets$NamedSets" "LOWER" "[I" ∈ wWL := wIn 460 (by decide +kernel) (by decide +kernel)
theorem g_NS_77 : Cond.fieldLink "CodePointSets$NamedSets" 77 "CodePointSets$NamedSets" "LETTER" "[I" ∈ wWL := wIn 462 (by decide +kernel) (by decide +kernel)
theorem g_NS_80 : Cond.fieldLink "CodePointSets$NamedSets" 80 "CodePointSets$NamedSets" "GREEK" "[I" ∈ wWL := wIn 464 (by decide +kernel) (by decide +kernel)
theorem g_NS_83 : Cond.fieldLink "CodePointSets$NamedSets" 83 "CodePointSets$NamedSets" "SPACE" "[I" ∈ wWL := wIn 466 (by decide +kernel) (by decide +kernel)
theorem g_NS_86 : Cond.fieldLink "CodePointSets$NamedSets" 86 "CodePointSets$NamedSets" "SURROGATE" "[I" ∈ wWL := wIn 468 (by decide +kernel) (by decide +kernel)
theorem o_OB_3 : Cond.methodLink "CodePointSets$OpenBracket" 3 Lib.objectInit ∈ wWL := wIn 113 (by decide +kernel) (by decide +kernel)
theorem c_OB_9 : Cond.classLink "CodePointSets$OpenBracket" 9 "CodePointSets$MemberSet" ∈ wWL := wIn 114 (by decide +kernel) (by decide +kernel)
theorem n_OB_9 : wCN "CodePointSets$OpenBracket" 9 1 := ⟨("CodePointSets$MemberSet", wT_MS, 4), rfl, c_OB_9, wIn 44 (by decide +kernel) (by decide +kernel), wIn 3 (by decide +kernel) (by decide +kernel)⟩
theorem l_OB_11 : wCl "CodePointSets$OpenBracket" 11 M_MS_init := Or.inr ⟨"CodePointSets", by decide +kernel⟩
theorem f_OB_12 : wF "CodePointSets$OpenBracket" 12 2 0 := ⟨("CodePointSets$OpenBracket", wT_OB, 5), rfl, by decide, Or.inl (wIn 116 (by decide +kernel) (by decide +kernel))⟩
theorem f_OB_21 : wF "CodePointSets$OpenBracket" 21 2 1 := ⟨("CodePointSets$OpenBracket", wT_OB, 5), rfl, by decide, Or.inl (wIn 118 (by decide +kernel) (by decide +kernel))⟩
theorem f_OB_25 : wF "CodePointSets$OpenBracket" 25 2 2 := ⟨("CodePointSets$OpenBracket", wT_OB, 5), rfl, by decide, Or.inl (wIn 120 (by decide +kernel) (by decide +kernel))⟩
theorem f_OB_29 : wF "CodePointSets$OpenBracket" 29 2 3 := ⟨("CodePointSets$OpenBracket", wT_OB, 5), rfl, by decide, Or.inl (wIn 122 (by decide +kernel) (by decide +kernel))⟩
theorem f_OB_32 : wF "CodePointSets$OpenBracket" 32 2 4 := ⟨("CodePointSets$OpenBracket", wT_OB, 5), rfl, by decide, Or.inl (wIn 124 (by decide +kernel) (by decide +kernel))⟩
theorem l_OB_18 : wCl "CodePointSets$OpenBracket" 18 M_MS_clear := Or.inl (wIn 393 (by decide +kernel) (by decide +kernel))
theorem f_PW_35 : wF "CodePointSets$PatternWriter" 35 1 0 := ⟨("CodePointSets$MemberSet", wT_MS, 4), rfl, by decide, Or.inr ⟨"CodePointSets", by decide +kernel⟩⟩
theorem f_PW_29 : wF "CodePointSets$PatternWriter" 29 1 1 := ⟨("CodePointSets$MemberSet", wT_MS, 4), rfl, by decide, Or.inr ⟨"CodePointSets", by decide +kernel⟩⟩
theorem f_PW_46 : wF "CodePointSets$PatternWriter" 46 1 2 := ⟨("CodePointSets$MemberSet", wT_MS, 4), rfl, by decide, Or.inr ⟨"CodePointSets", by decide +kernel⟩⟩
theorem f_PW_43 : wF "CodePointSets$PatternWriter" 43 1 3 := ⟨("CodePointSets$MemberSet", wT_MS, 4), rfl, by decide, Or.inr ⟨"CodePointSets", by decide +kernel⟩⟩
theorem o_PW_3 : Cond.methodLink "CodePointSets$PatternWriter" 3 Lib.objectInit ∈ wWL := wIn 166 (by decide +kernel) (by decide +kernel)
theorem c_PW_9 : Cond.classLink "CodePointSets$PatternWriter" 9 "CodePointSets$CodeRow" ∈ wWL := wIn 167 (by decide +kernel) (by decide +kernel)
theorem n_PW_9 : wCN "CodePointSets$PatternWriter" 9 0 := ⟨("CodePointSets$CodeRow", wT_CR, 2), rfl, c_PW_9, wIn 25 (by decide +kernel) (by decide +kernel), wIn 2 (by decide +kernel) (by decide +kernel)⟩
theorem l_PW_11 : wCl "CodePointSets$PatternWriter" 11 M_CR_init := Or.inr ⟨"CodePointSets", by decide +kernel⟩
theorem f_PW_12 : wF "CodePointSets$PatternWriter" 12 4 0 := ⟨("CodePointSets$PatternWriter", wT_PW, 2), rfl, by decide, Or.inl (wIn 169 (by decide +kernel) (by decide +kernel))⟩
theorem f_PW_21 : wF "CodePointSets$PatternWriter" 21 4 1 := ⟨("CodePointSets$PatternWriter", wT_PW, 2), rfl, by decide, Or.inl (wIn 171 (by decide +kernel) (by decide +kernel))⟩
theorem l_PW_18 : wCl "CodePointSets$PatternWriter" 18 M_CR_clear := Or.inl (wIn 520 (by decide +kernel) (by decide +kernel))
theorem l_PW_25 : wCl "CodePointSets$PatternWriter" 25 M_PW_put := Or.inl (wIn 521 (by decide +kernel) (by decide +kernel))
theorem l_PW_68 : wCl "CodePointSets$PatternWriter" 68 M_CR_append := Or.inl (wIn 525 (by decide +kernel) (by decide +kernel))
theorem l_PW_39 : wCl "CodePointSets$PatternWriter" 39 M_PW_writeRange := Or.inl (wIn 526 (by decide +kernel) (by decide +kernel))
theorem l_PW_54 : wCl "CodePointSets$PatternWriter" 54 M_PW_writeCode := Or.inl (wIn 530 (by decide +kernel) (by decide +kernel))
theorem l_PW_61 : wCl "CodePointSets$PatternWriter" 61 M_PW_writeHex := Or.inl (wIn 534 (by decide +kernel) (by decide +kernel))
theorem l_PW_64 : wCl "CodePointSets$PatternWriter" 64 M_PW_isSign := Or.inl (wIn 538 (by decide +kernel) (by decide +kernel))
theorem l_PW_50 : wCl "CodePointSets$PatternWriter" 50 M_PW_writeString := Or.inl (wIn 541 (by decide +kernel) (by decide +kernel))
theorem l_PW_57 : wCl "CodePointSets$PatternWriter" 57 M_MS_codeOfKey := Or.inl (wIn 545 (by decide +kernel) (by decide +kernel))
theorem f_TR_46 : wF "CodePointSets$TokenRow" 46 0 1 := ⟨("CodePointSets$CodeRow", wT_CR, 2), rfl, by decide, Or.inr ⟨"CodePointSets", by decide +kernel⟩⟩
theorem o_TR_3 : Cond.methodLink "CodePointSets$TokenRow" 3 Lib.objectInit ∈ wWL := wIn 82 (by decide +kernel) (by decide +kernel)
theorem c_TR_9 : Cond.classLink "CodePointSets$TokenRow" 9 "CodePointSets$CodeRow" ∈ wWL := wIn 83 (by decide +kernel) (by decide +kernel)
theorem n_TR_9 : wCN "CodePointSets$TokenRow" 9 0 := ⟨("CodePointSets$CodeRow", wT_CR, 2), rfl, c_TR_9, wIn 25 (by decide +kernel) (by decide +kernel), wIn 2 (by decide +kernel) (by decide +kernel)⟩
theorem l_TR_11 : wCl "CodePointSets$TokenRow" 11 M_CR_init := Or.inr ⟨"CodePointSets", by decide +kernel⟩
theorem f_TR_12 : wF "CodePointSets$TokenRow" 12 5 0 := ⟨("CodePointSets$TokenRow", wT_TR, 6), rfl, by decide, Or.inl (wIn 85 (by decide +kernel) (by decide +kernel))⟩
theorem f_TR_18 : wF "CodePointSets$TokenRow" 18 5 1 := ⟨("CodePointSets$TokenRow", wT_TR, 6), rfl, by decide, Or.inl (wIn 86 (by decide +kernel) (by decide +kernel))⟩
theorem f_TR_22 : wF "CodePointSets$TokenRow" 22 5 2 := ⟨("CodePointSets$TokenRow", wT_TR, 6), rfl, by decide, Or.inl (wIn 87 (by decide +kernel) (by decide +kernel))⟩
theorem f_TR_25 : wF "CodePointSets$TokenRow" 25 5 3 := ⟨("CodePointSets$TokenRow", wT_TR, 6), rfl, by decide, Or.inl (wIn 88 (by decide +kernel) (by decide +kernel))⟩
theorem f_TR_28 : wF "CodePointSets$TokenRow" 28 5 4 := ⟨("CodePointSets$TokenRow", wT_TR, 6), rfl, by decide, Or.inl (wIn 89 (by decide +kernel) (by decide +kernel))⟩
theorem f_TR_40 : wF "CodePointSets$TokenRow" 40 5 5 := ⟨("CodePointSets$TokenRow", wT_TR, 6), rfl, by decide, Or.inl (wIn 91 (by decide +kernel) (by decide +kernel))⟩
theorem l_TR_36 : wCl "CodePointSets$TokenRow" 36 M_CR_become := Or.inl (wIn 240 (by decide +kernel) (by decide +kernel))
theorem l_TR_43 : wCl "CodePointSets$TokenRow" 43 M_CR_codeAt := Or.inl (wIn 247 (by decide +kernel) (by decide +kernel))
theorem l_TR_47 : wCl "CodePointSets$TokenRow" 47 M_TR_takeToken := Or.inl (wIn 248 (by decide +kernel) (by decide +kernel))
theorem l_TR_51 : wCl "CodePointSets$TokenRow" 51 M_TR_takeOpening := Or.inl (wIn 252 (by decide +kernel) (by decide +kernel))
theorem l_TR_54 : wCl "CodePointSets$TokenRow" 54 M_TR_add := Or.inl (wIn 256 (by decide +kernel) (by decide +kernel))
theorem l_TR_64 : wCl "CodePointSets$TokenRow" 64 M_TR_collectName := Or.inl (wIn 260 (by decide +kernel) (by decide +kernel))
theorem l_TR_91 : wCl "CodePointSets$TokenRow" 91 M_CR_clear := Or.inl (wIn 264 (by decide +kernel) (by decide +kernel))
theorem l_TR_77 : wCl "CodePointSets$TokenRow" 77 M_TR_isLetter := Or.inl (wIn 265 (by decide +kernel) (by decide +kernel))
theorem l_TR_94 : wCl "CodePointSets$TokenRow" 94 M_CR_append := Or.inl (wIn 268 (by decide +kernel) (by decide +kernel))
theorem l_TR_67 : wCl "CodePointSets$TokenRow" 67 M_TR_addProperty := Or.inl (wIn 269 (by decide +kernel) (by decide +kernel))
theorem l_TR_97 : wCl "CodePointSets$TokenRow" 97 M_NS_numberOf := Or.inl (wIn 273 (by decide +kernel) (by decide +kernel))
theorem l_TR_58 : wCl "CodePointSets$TokenRow" 58 M_TR_takeBracedName := Or.inl (wIn 340 (by decide +kernel) (by decide +kernel))
theorem l_TR_61 : wCl "CodePointSets$TokenRow" 61 M_TR_takeEscape := Or.inl (wIn 344 (by decide +kernel) (by decide +kernel))
theorem l_TR_71 : wCl "CodePointSets$TokenRow" 71 M_TR_takeFourDigits := Or.inl (wIn 348 (by decide +kernel) (by decide +kernel))
theorem l_TR_81 : wCl "CodePointSets$TokenRow" 81 M_TR_countHexDigits := Or.inl (wIn 352 (by decide +kernel) (by decide +kernel))
theorem l_TR_103 : wCl "CodePointSets$TokenRow" 103 M_TR_hexDigit := Or.inl (wIn 356 (by decide +kernel) (by decide +kernel))
theorem l_TR_85 : wCl "CodePointSets$TokenRow" 85 M_TR_hexValue := Or.inl (wIn 359 (by decide +kernel) (by decide +kernel))
theorem l_TR_74 : wCl "CodePointSets$TokenRow" 74 M_TR_takeBracedDigits := Or.inl (wIn 363 (by decide +kernel) (by decide +kernel))
theorem l_TR_88 : wCl "CodePointSets$TokenRow" 88 M_CP_isCodePoint := Or.inr ⟨"CodePointSets", by decide +kernel⟩
theorem l_TR_32 : wCl "CodePointSets$TokenRow" 32 M_TR_kindAt := Or.inl (wIn 384 (by decide +kernel) (by decide +kernel))
theorem f_PR_95 : wF "CodePointSets$PatternReader" 95 1 3 := ⟨("CodePointSets$MemberSet", wT_MS, 4), rfl, by decide, Or.inr ⟨"CodePointSets", by decide +kernel⟩⟩
theorem o_PR_3 : Cond.methodLink "CodePointSets$PatternReader" 3 Lib.objectInit ∈ wWL := wIn 76 (by decide +kernel) (by decide +kernel)
theorem c_PR_9 : Cond.classLink "CodePointSets$PatternReader" 9 "CodePointSets$TokenRow" ∈ wWL := wIn 77 (by decide +kernel) (by decide +kernel)
theorem n_PR_9 : wCN "CodePointSets$PatternReader" 9 5 := ⟨("CodePointSets$TokenRow", wT_TR, 6), rfl, c_PR_9, wIn 78 (by decide +kernel) (by decide +kernel), wIn 5 (by decide +kernel) (by decide +kernel)⟩
theorem l_PR_11 : wCl "CodePointSets$PatternReader" 11 M_TR_init := Or.inr ⟨"CodePointSets", by decide +kernel⟩
theorem f_PR_45 : wF "CodePointSets$PatternReader" 45 5 4 := ⟨("CodePointSets$TokenRow", wT_TR, 6), rfl, by decide, Or.inr ⟨"CodePointSets", by decide +kernel⟩⟩
theorem c_PR_18 : Cond.classLink "CodePointSets$PatternReader" 18 "CodePointSets$OpenBracket" ∈ wWL := wIn 105 (by decide +kernel) (by decide +kernel)
theorem n_PR_18 : wCN "CodePointSets$PatternReader" 18 2 := ⟨("CodePointSets$OpenBracket", wT_OB, 5), rfl, c_PR_18, wIn 109 (by decide +kernel) (by decide +kernel), wIn 6 (by decide +kernel) (by decide +kernel)⟩
theorem c_PR_24 : Cond.classLink "CodePointSets$PatternReader" 24 "CodePointSets$MemberSet" ∈ wWL := wIn 107 (by decide +kernel) (by decide +kernel)
theorem n_PR_24 : wCN "CodePointSets$PatternReader" 24 1 := ⟨("CodePointSets$MemberSet", wT_MS, 4), rfl, c_PR_24, wIn 44 (by decide +kernel) (by decide +kernel), wIn 3 (by decide +kernel) (by decide +kernel)⟩
theorem l_PR_26 : wCl "CodePointSets$PatternReader" 26 M_MS_init := Or.inr ⟨"CodePointSets", by decide +kernel⟩
theorem l_PR_37 : wCl "CodePointSets$PatternReader" 37 M_OB_init := Or.inr ⟨"CodePointSets", by decide +kernel⟩
theorem f_PR_94 : wF "CodePointSets$PatternReader" 94 2 0 := ⟨("CodePointSets$OpenBracket", wT_OB, 5), rfl, by decide, Or.inr ⟨"CodePointSets", by decide +kernel⟩⟩
theorem f_PR_90 : wF "CodePointSets$PatternReader" 90 2 1 := ⟨("CodePointSets$OpenBracket", wT_OB, 5), rfl, by decide, Or.inr ⟨"CodePointSets", by decide +kernel⟩⟩
theorem f_PR_131 : wF "CodePointSets$PatternReader" 131 2 2 := ⟨("CodePointSets$OpenBracket", wT_OB, 5), rfl, by decide, Or.inr ⟨"CodePointSets", by decide +kernel⟩⟩
theorem f_PR_134 : wF "CodePointSets$PatternReader" 134 2 3 := ⟨("CodePointSets$OpenBracket", wT_OB, 5), rfl, by decide, Or.inr ⟨"CodePointSets", by decide +kernel⟩⟩
theorem f_PR_137 : wF "CodePointSets$PatternReader" 137 2 4 := ⟨("CodePointSets$OpenBracket", wT_OB, 5), rfl, by decide, Or.inr ⟨"CodePointSets", by decide +kernel⟩⟩
theorem f_PR_12 : wF "CodePointSets$PatternReader" 12 3 0 := ⟨("CodePointSets$PatternReader", wT_PR, 7), rfl, by decide, Or.inl (wIn 137 (by decide +kernel) (by decide +kernel))⟩
theorem f_PR_20 : wF "CodePointSets$PatternReader" 20 3 1 := ⟨("CodePointSets$PatternReader", wT_PR, 7), rfl, by decide, Or.inl (wIn 139 (by decide +kernel) (by decide +kernel))⟩
theorem f_PR_38 : wF "CodePointSets$PatternReader" 38 3 2 := ⟨("CodePointSets$PatternReader", wT_PR, 7), rfl, by decide, Or.inl (wIn 140 (by decide +kernel) (by decide +kernel))⟩
theorem f_PR_42 : wF "CodePointSets$PatternReader" 42 3 3 := ⟨("CodePointSets$PatternReader", wT_PR, 7), rfl, by decide, Or.inl (wIn 141 (by decide +kernel) (by decide +kernel))⟩
theorem f_PR_27 : wF "CodePointSets$PatternReader" 27 3 4 := ⟨("CodePointSets$PatternReader", wT_PR, 7), rfl, by decide, Or.inl (wIn 142 (by decide +kernel) (by decide +kernel))⟩
theorem f_PR_31 : wF "CodePointSets$PatternReader" 31 3 5 := ⟨("CodePointSets$PatternReader", wT_PR, 7), rfl, by decide, Or.inl (wIn 143 (by decide +kernel) (by decide +kernel))⟩
theorem f_PR_34 : wF "CodePointSets$PatternReader" 34 3 6 := ⟨("CodePointSets$PatternReader", wT_PR, 7), rfl, by decide, Or.inl (wIn 144 (by decide +kernel) (by decide +kernel))⟩
theorem l_PR_48 : wCl "CodePointSets$PatternReader" 48 M_PR_readPart := Or.inl (wIn 372 (by decide +kernel) (by decide +kernel))
theorem l_PR_52 : wCl "CodePointSets$PatternReader" 52 M_TR_kindAt := Or.inl (wIn 376 (by decide +kernel) (by decide +kernel))
theorem l_PR_56 : wCl "CodePointSets$PatternReader" 56 M_TR_beginsSet := Or.inl (wIn 380 (by decide +kernel) (by decide +kernel))
theorem l_PR_60 : wCl "CodePointSets$PatternReader" 60 M_PR_openBracket := Or.inl (wIn 385 (by decide +kernel) (by decide +kernel))
theorem l_PR_82 : wCl "CodePointSets$PatternReader" 82 M_OB_begin := Or.inl (wIn 389 (by decide +kernel) (by decide +kernel))
theorem l_PR_64 : wCl "CodePointSets$PatternReader" 64 M_PR_endBracket := Or.inl (wIn 397 (by decide +kernel) (by decide +kernel))
theorem l_PR_86 : wCl "CodePointSets$PatternReader" 86 M_PR_innermost := Or.inl (wIn 401 (by decide +kernel) (by decide +kernel))
theorem l_PR_98 : wCl "CodePointSets$PatternReader" 98 M_MS_becomeOthers := Or.inl (wIn 405 (by decide +kernel) (by decide +kernel))
theorem l_PR_102 : wCl "CodePointSets$PatternReader" 102 M_PR_join := Or.inl (wIn 415 (by decide +kernel) (by decide +kernel))
theorem l_PR_147 : wCl "CodePointSets$PatternReader" 147 M_MS_becomeMerge := Or.inl (wIn 419 (by decide +kernel) (by decide +kernel))
theorem l_PR_67 : wCl "CodePointSets$PatternReader" 67 M_PR_readProperty := Or.inl (wIn 439 (by decide +kernel) (by decide +kernel))
theorem l_PR_106 : wCl "CodePointSets$PatternReader" 106 M_TR_valueAt := Or.inl (wIn 443 (by decide +kernel) (by decide +kernel))
theorem l_PR_109 : wCl "CodePointSets$PatternReader" 109 M_NS_edgesOf := Or.inl (wIn 447 (by decide +kernel) (by decide +kernel))
theorem l_PR_115 : wCl "CodePointSets$PatternReader" 115 M_MS_becomeEdges := Or.inl (wIn 470 (by decide +kernel) (by decide +kernel))
theorem l_PR_70 : wCl "CodePointSets$PatternReader" 70 M_PR_readString := Or.inl (wIn 474 (by decide +kernel) (by decide +kernel))
theorem l_PR_119 : wCl "CodePointSets$PatternReader" 119 M_PR_takeRange := Or.inl (wIn 478 (by decide +kernel) (by decide +kernel))
theorem l_PR_140 : wCl "CodePointSets$PatternReader" 140 M_MS_clear := Or.inl (wIn 482 (by decide +kernel) (by decide +kernel))
theorem l_PR_143 : wCl "CodePointSets$PatternReader" 143 M_MS_appendRange := Or.inl (wIn 483 (by decide +kernel) (by decide +kernel))
theorem l_PR_123 : wCl "CodePointSets$PatternReader" 123 M_MS_keyOf := Or.inl (wIn 487 (by decide +kernel) (by decide +kernel))
theorem l_PR_127 : wCl "CodePointSets$PatternReader" 127 M_MS_becomeString := Or.inl (wIn 490 (by decide +kernel) (by decide +kernel))
theorem l_PR_73 : wCl "CodePointSets$PatternReader" 73 M_PR_readChar := Or.inl (wIn 494 (by decide +kernel) (by decide +kernel))
theorem l_PR_76 : wCl "CodePointSets$PatternReader" 76 M_PR_readHyphen := Or.inl (wIn 498 (by decide +kernel) (by decide +kernel))
theorem l_PR_79 : wCl "CodePointSets$PatternReader" 79 M_PR_readSign := Or.inl (wIn 502 (by decide +kernel) (by decide +kernel))
theorem o_CP_1 : Cond.methodLink "CodePointSets" 1 Lib.objectInit ∈ wWL := wIn 21 (by decide +kernel) (by decide +kernel)
theorem c_CP_7 : Cond.classLink "CodePointSets" 7 "CodePointSets$CodeRow" ∈ wWL := wIn 24 (by decide +kernel) (by decide +kernel)
theorem n_CP_7 : wCN "CodePointSets" 7 0 := ⟨("CodePointSets$CodeRow", wT_CR, 2), rfl, c_CP_7, wIn 25 (by decide +kernel) (by decide +kernel), wIn 2 (by decide +kernel) (by decide +kernel)⟩
theorem l_CP_9 : wCl "CodePointSets" 9 M_CR_init := Or.inr ⟨"CodePointSets", by decide +kernel⟩
theorem f_CP_54 : wF "CodePointSets" 54 0 1 := ⟨("CodePointSets$CodeRow", wT_CR, 2), rfl, by decide, Or.inr ⟨"CodePointSets", by decide +kernel⟩⟩
theorem c_CP_16 : Cond.classLink "CodePointSets" 16 "CodePointSets$MemberSet" ∈ wWL := wIn 42 (by decide +kernel) (by decide +kernel)
theorem n_CP_16 : wCN "CodePointSets" 16 1 := ⟨("CodePointSets$MemberSet", wT_MS, 4), rfl, c_CP_16, wIn 44 (by decide +kernel) (by decide +kernel), wIn 3 (by decide +kernel) (by decide +kernel)⟩
theorem l_CP_22 : wCl "CodePointSets" 22 M_MS_init := Or.inr ⟨"CodePointSets", by decide +kernel⟩
theorem f_CP_130 : wF "CodePointSets" 130 1 0 := ⟨("CodePointSets$MemberSet", wT_MS, 4), rfl, by decide, Or.inr ⟨"CodePointSets", by decide +kernel⟩⟩
theorem f_CP_127 : wF "CodePointSets" 127 1 1 := ⟨("CodePointSets$MemberSet", wT_MS, 4), rfl, by decide, Or.inr ⟨"CodePointSets", by decide +kernel⟩⟩
theorem f_CP_104 : wF "CodePointSets" 104 1 3 := ⟨("CodePointSets$MemberSet", wT_MS, 4), rfl, by decide, Or.inr ⟨"CodePointSets", by decide +kernel⟩⟩
theorem c_CP_23 : Cond.classLink "CodePointSets" 23 "CodePointSets$PatternReader" ∈ wWL := wIn 71 (by decide +kernel) (by decide +kernel)
theorem n_CP_23 : wCN "CodePointSets" 23 3 := ⟨("CodePointSets$PatternReader", wT_PR, 7), rfl, c_CP_23, wIn 72 (by decide +kernel) (by decide +kernel), wIn 4 (by decide +kernel) (by decide +kernel)⟩
theorem l_CP_25 : wCl "CodePointSets" 25 M_PR_init := Or.inl (wIn 73 (by decide +kernel) (by decide +kernel))
theorem f_CP_66 : wF "CodePointSets" 66 3 0 := ⟨("CodePointSets$PatternReader", wT_PR, 7), rfl, by decide, Or.inr ⟨"CodePointSets", by decide +kernel⟩⟩
theorem f_CP_80 : wF "CodePointSets" 80 3 6 := ⟨("CodePointSets$PatternReader", wT_PR, 7), rfl, by decide, Or.inr ⟨"CodePointSets", by decide +kernel⟩⟩
theorem c_CP_30 : Cond.classLink "CodePointSets" 30 "CodePointSets$PatternWriter" ∈ wWL := wIn 161 (by decide +kernel) (by decide +kernel)
theorem n_CP_30 : wCN "CodePointSets" 30 4 := ⟨("CodePointSets$PatternWriter", wT_PW, 2), rfl, c_CP_30, wIn 162 (by decide +kernel) (by decide +kernel), wIn 7 (by decide +kernel) (by decide +kernel)⟩
theorem l_CP_32 : wCl "CodePointSets" 32 M_PW_init := Or.inr ⟨"CodePointSets", by decide +kernel⟩
theorem f_CP_91 : wF "CodePointSets" 91 4 0 := ⟨("CodePointSets$PatternWriter", wT_PW, 2), rfl, by decide, Or.inr ⟨"CodePointSets", by decide +kernel⟩⟩
theorem f_CP_10 : wF "CodePointSets" 10 6 0 := ⟨("CodePointSets", wT_CP, 6), rfl, by decide, Or.inl (wIn 177 (by decide +kernel) (by decide +kernel))⟩
theorem f_CP_18 : wF "CodePointSets" 18 6 1 := ⟨("CodePointSets", wT_CP, 6), rfl, by decide, Or.inl (wIn 178 (by decide +kernel) (by decide +kernel))⟩
theorem f_CP_26 : wF "CodePointSets" 26 6 2 := ⟨("CodePointSets", wT_CP, 6), rfl, by decide, Or.inl (wIn 179 (by decide +kernel) (by decide +kernel))⟩
theorem f_CP_33 : wF "CodePointSets" 33 6 3 := ⟨("CodePointSets", wT_CP, 6), rfl, by decide, Or.inl (wIn 180 (by decide +kernel) (by decide +kernel))⟩
theorem f_CP_37 : wF "CodePointSets" 37 6 4 := ⟨("CodePointSets", wT_CP, 6), rfl, by decide, Or.inl (wIn 181 (by decide +kernel) (by decide +kernel))⟩
theorem f_CP_41 : wF "CodePointSets" 41 6 5 := ⟨("CodePointSets", wT_CP, 6), rfl, by decide, Or.inl (wIn 182 (by decide +kernel) (by decide +kernel))⟩
theorem l_CP_44 : wCl "CodePointSets" 44 M_CP_isCodePoint := Or.inl (wIn 200 (by decide +kernel) (by decide +kernel))
theorem k_CP_152 : Cond.constant "CodePointSets" 152 1114112 ∈ wWL := wIn 203 (by decide +kernel) (by decide +kernel)
theorem l_CP_48 : wCl "CodePointSets" 48 M_CR_append := Or.inl (wIn 204 (by decide +kernel) (by decide +kernel))
theorem l_CP_51 : wCl "CodePointSets" 51 M_CR_clear := Or.inl (wIn 212 (by decide +kernel) (by decide +kernel))
theorem l_CP_58 : wCl "CodePointSets" 58 M_CR_codeAt := Or.inl (wIn 224 (by decide +kernel) (by decide +kernel))
theorem l_CP_62 : wCl "CodePointSets" 62 M_CP_registerAt := Or.inl (wIn 232 (by decide +kernel) (by decide +kernel))
theorem l_CP_70 : wCl "CodePointSets" 70 M_TR_cutText := Or.inl (wIn 236 (by decide +kernel) (by decide +kernel))
theorem l_CP_76 : wCl "CodePointSets" 76 M_PR_readPattern := Or.inl (wIn 368 (by decide +kernel) (by decide +kernel))
theorem l_CP_83 : wCl "CodePointSets" 83 M_MS_become := Or.inl (wIn 506 (by decide +kernel) (by decide +kernel))
theorem l_CP_87 : wCl "CodePointSets" 87 M_PW_writePattern := Or.inl (wIn 516 (by decide +kernel) (by decide +kernel))
theorem l_CP_94 : wCl "CodePointSets" 94 M_CR_become := Or.inl (wIn 549 (by decide +kernel) (by decide +kernel))
theorem l_CP_97 : wCl "CodePointSets" 97 M_MS_becomeMerge := Or.inl (wIn 554 (by decide +kernel) (by decide +kernel))
theorem l_CP_101 : wCl "CodePointSets" 101 M_CP_keepSpare := Or.inl (wIn 555 (by decide +kernel) (by decide +kernel))
theorem l_CP_107 : wCl "CodePointSets" 107 M_MS_becomeOthers := Or.inl (wIn 563 (by decide +kernel) (by decide +kernel))
theorem l_CP_110 : wCl "CodePointSets" 110 M_CA_collectAlikes := Or.inl (wIn 568 (by decide +kernel) (by decide +kernel))
theorem l_CP_116 : wCl "CodePointSets" 116 M_MS_codeCount := Or.inl (wIn 589 (by decide +kernel) (by decide +kernel))
theorem l_CP_120 : wCl "CodePointSets" 120 M_MS_holdsCode := Or.inl (wIn 597 (by decide +kernel) (by decide +kernel))
theorem l_CP_123 : wCl "CodePointSets" 123 M_CP_textIsMember := Or.inl (wIn 602 (by decide +kernel) (by decide +kernel))
theorem l_CP_144 : wCl "CodePointSets" 144 M_MS_keyOf := Or.inl (wIn 606 (by decide +kernel) (by decide +kernel))
theorem l_CP_148 : wCl "CodePointSets" 148 M_MS_holdsString := Or.inl (wIn 607 (by decide +kernel) (by decide +kernel))
theorem l_CP_134 : wCl "CodePointSets" 134 M_MS_codeOfRank := Or.inl (wIn 631 (by decide +kernel) (by decide +kernel))
theorem l_CP_137 : wCl "CodePointSets" 137 M_CP_endOfMembers := Or.inl (wIn 639 (by decide +kernel) (by decide +kernel))
theorem l_CP_141 : wCl "CodePointSets" 141 M_CP_beginOfMember := Or.inl (wIn 643 (by decide +kernel) (by decide +kernel))
theorem l_ST_335 : wCl "java/lang/String" 335 M_ST_coder := Or.inl (wIn 296 (by decide +kernel) (by decide +kernel))
theorem l_ST_492 : wCl "java/lang/String" 492 M_ST_isLatin1 := Or.inl (wIn 306 (by decide +kernel) (by decide +kernel))
theorem l_ST_495 : wCl "java/lang/String" 495 M_SL_charAt := Or.inl (wIn 310 (by decide +kernel) (by decide +kernel))
theorem l_SL_9 : wCl "java/lang/StringLatin1" 9 M_ST_checkIndex := Or.inl (wIn 313 (by decide +kernel) (by decide +kernel))
