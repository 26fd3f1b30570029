/-! methods of MS: written by wip/gen/mknames.py -/
def M_MS_init : wM := (⟨"CodePointSets$MemberSet", "<init>", "()V"⟩, prog_4_method_1_code, 1, none)
set_option maxRecDepth 100000 in
theorem yM_MS_init : wCy M_MS_init 0 := ⟨wIn 47 rfl (by decide +kernel), wIn 3 (by decide +kernel) (by decide +kernel), by decide +kernel, by decide +kernel, by decide +kernel, by decide +kernel⟩
theorem iM_MS_init : Cond.instanceMethod M_MS_init.1 ∈ wWL := wIn 46 (by decide +kernel) (by decide +kernel)
def M_MS_clear : wM := (⟨"CodePointSets$MemberSet", "clear", "()V"⟩, prog_4_method_4_code, 1, none)
set_option maxRecDepth 100000 in
theorem yM_MS_clear : wCy M_MS_clear 0 := ⟨wIn 396 rfl (by decide +kernel), wIn 3 (by decide +kernel) (by decide +kernel), by decide +kernel, by decide +kernel, by decide +kernel, by decide +kernel⟩
theorem vM_MS_clear : wCv M_MS_clear := ⟨wIn 394 (by decide +kernel) (by decide +kernel), wIn 395 (by decide +kernel) (by decide +kernel)⟩
def M_MS_becomeOthers : wM := (⟨"CodePointSets$MemberSet", "becomeOthers", "(LCodePointSets$MemberSet;)V"⟩, prog_4_method_9_code, 3, none)
set_option maxRecDepth 100000 in
theorem yM_MS_becomeOthers : wCy M_MS_becomeOthers 1 := ⟨wIn 408 rfl (by decide +kernel), wIn 3 (by decide +kernel) (by decide +kernel), by decide +kernel, by decide +kernel, by decide +kernel, by decide +kernel⟩
theorem vM_MS_becomeOthers : wCv M_MS_becomeOthers := ⟨wIn 406 (by decide +kernel) (by decide +kernel), wIn 407 (by decide +kernel) (by decide +kernel)⟩
def M_MS_toggleEdge : wM := (⟨"CodePointSets$MemberSet", "toggleEdge", "(I)V"⟩, prog_4_method_14_code, 2, none)
set_option maxRecDepth 100000 in
theorem yM_MS_toggleEdge : wCy M_MS_toggleEdge 1 := ⟨wIn 413 rfl (by decide +kernel), wIn 3 (by decide +kernel) (by decide +kernel), by decide +kernel, by decide +kernel, by decide +kernel, by decide +kernel⟩
theorem vM_MS_toggleEdge : wCv M_MS_toggleEdge := ⟨wIn 412 (by decide +kernel) (by decide +kernel), wSel (n := 4) (by decide +kernel)⟩
def M_MS_becomeMerge : wM := (⟨"CodePointSets$MemberSet", "becomeMerge", "(LCodePointSets$MemberSet;LCodePointSets$MemberSet;I)V"⟩, prog_4_method_10_code, 4, none)
set_option maxRecDepth 100000 in
theorem yM_MS_becomeMerge : wCy M_MS_becomeMerge 3 := ⟨wIn 422 rfl (by decide +kernel), wIn 3 (by decide +kernel) (by decide +kernel), by decide +kernel, by decide +kernel, by decide +kernel, by decide +kernel⟩
theorem vM_MS_becomeMerge : wCv M_MS_becomeMerge := ⟨wIn 420 (by decide +kernel) (by decide +kernel), wIn 421 (by decide +kernel) (by decide +kernel)⟩
def M_MS_mergeEdges : wM := (⟨"CodePointSets$MemberSet", "mergeEdges", "(LCodePointSets$MemberSet;LCodePointSets$MemberSet;I)V"⟩, prog_4_method_11_code, 13, none)
set_option maxRecDepth 100000 in
theorem yM_MS_mergeEdges : wCy M_MS_mergeEdges 3 := ⟨wIn 426 rfl (by decide +kernel), wIn 3 (by decide +kernel) (by decide +kernel), by decide +kernel, by decide +kernel, by decide +kernel, by decide +kernel⟩
theorem vM_MS_mergeEdges : wCv M_MS_mergeEdges := ⟨wIn 425 (by decide +kernel) (by decide +kernel), wSel (n := 4) (by decide +kernel)⟩
def M_MS_isKept : wM := (⟨"CodePointSets$MemberSet", "isKept", "(ZZI)Z"⟩, prog_4_method_13_code, 3, (some (.boolean)))
set_option maxRecDepth 100000 in
theorem yM_MS_isKept : wCy M_MS_isKept 3 := ⟨wIn 429 rfl (by decide +kernel), wIn 3 (by decide +kernel) (by decide +kernel), by decide +kernel, by decide +kernel, by decide +kernel, by decide +kernel⟩
theorem sM_MS_isKept : Cond.static M_MS_isKept.1 ∈ wWL := wIn 428 (by decide +kernel) (by decide +kernel)
def M_MS_mergeKeys : wM := (⟨"CodePointSets$MemberSet", "mergeKeys", "(LCodePointSets$MemberSet;LCodePointSets$MemberSet;I)V"⟩, prog_4_method_12_code, 14, none)
set_option maxRecDepth 100000 in
theorem yM_MS_mergeKeys : wCy M_MS_mergeKeys 3 := ⟨wIn 433 rfl (by decide +kernel), wIn 3 (by decide +kernel) (by decide +kernel), by decide +kernel, by decide +kernel, by decide +kernel, by decide +kernel⟩
theorem vM_MS_mergeKeys : wCv M_MS_mergeKeys := ⟨wIn 432 (by decide +kernel) (by decide +kernel), wSel (n := 4) (by decide +kernel)⟩
def M_MS_appendKey : wM := (⟨"CodePointSets$MemberSet", "appendKey", "(J)V"⟩, prog_4_method_15_code, 3, none)
set_option maxRecDepth 100000 in
theorem yM_MS_appendKey : wCy M_MS_appendKey 1 := ⟨wIn 438 rfl (by decide +kernel), wIn 3 (by decide +kernel) (by decide +kernel), by decide +kernel, by decide +kernel, by decide +kernel, by decide +kernel⟩
theorem vM_MS_appendKey : wCv M_MS_appendKey := ⟨wIn 437 (by decide +kernel) (by decide +kernel), wSel (n := 4) (by decide +kernel)⟩
def M_MS_becomeEdges : wM := (⟨"CodePointSets$MemberSet", "becomeEdges", "([I)V"⟩, prog_4_method_6_code, 3, none)
set_option maxRecDepth 100000 in
theorem yM_MS_becomeEdges : wCy M_MS_becomeEdges 1 := ⟨wIn 473 rfl (by decide +kernel), wIn 3 (by decide +kernel) (by decide +kernel), by decide +kernel, by decide +kernel, by decide +kernel, by decide +kernel⟩
theorem vM_MS_becomeEdges : wCv M_MS_becomeEdges := ⟨wIn 471 (by decide +kernel) (by decide +kernel), wIn 472 (by decide +kernel) (by decide +kernel)⟩
def M_MS_appendRange : wM := (⟨"CodePointSets$MemberSet", "appendRange", "(II)V"⟩, prog_4_method_8_code, 3, none)
set_option maxRecDepth 100000 in
theorem yM_MS_appendRange : wCy M_MS_appendRange 2 := ⟨wIn 486 rfl (by decide +kernel), wIn 3 (by decide +kernel) (by decide +kernel), by decide +kernel, by decide +kernel, by decide +kernel, by decide +kernel⟩
theorem vM_MS_appendRange : wCv M_MS_appendRange := ⟨wIn 484 (by decide +kernel) (by decide +kernel), wIn 485 (by decide +kernel) (by decide +kernel)⟩
def M_MS_keyOf : wM := (⟨"CodePointSets$MemberSet", "keyOf", "(III)J"⟩, prog_4_method_2_code, 3, (some (.long)))
set_option maxRecDepth 100000 in
theorem yM_MS_keyOf : wCy M_MS_keyOf 3 := ⟨wIn 489 rfl (by decide +kernel), wIn 3 (by decide +kernel) (by decide +kernel), by decide +kernel, by decide +kernel, by decide +kernel, by decide +kernel⟩
theorem sM_MS_keyOf : Cond.static M_MS_keyOf.1 ∈ wWL := wIn 488 (by decide +kernel) (by decide +kernel)
def M_MS_becomeString : wM := (⟨"CodePointSets$MemberSet", "becomeString", "(J)V"⟩, prog_4_method_7_code, 3, none)
set_option maxRecDepth 100000 in
theorem yM_MS_becomeString : wCy M_MS_becomeString 1 := ⟨wIn 493 rfl (by decide +kernel), wIn 3 (by decide +kernel) (by decide +kernel), by decide +kernel, by decide +kernel, by decide +kernel, by decide +kernel⟩
theorem vM_MS_becomeString : wCv M_MS_becomeString := ⟨wIn 491 (by decide +kernel) (by decide +kernel), wIn 492 (by decide +kernel) (by decide +kernel)⟩
def M_MS_become : wM := (⟨"CodePointSets$MemberSet", "become", "(LCodePointSets$MemberSet;)V"⟩, prog_4_method_5_code, 2, none)
set_option maxRecDepth 100000 in
theorem yM_MS_become : wCy M_MS_become 1 := ⟨wIn 509 rfl (by decide +kernel), wIn 3 (by decide +kernel) (by decide +kernel), by decide +kernel, by decide +kernel, by decide +kernel, by decide +kernel⟩
theorem vM_MS_become : wCv M_MS_become := ⟨wIn 507 (by decide +kernel) (by decide +kernel), wIn 508 (by decide +kernel) (by decide +kernel)⟩
def M_MS_codeOfKey : wM := (⟨"CodePointSets$MemberSet", "codeOfKey", "(JI)I"⟩, prog_4_method_3_code, 4, (some (.int)))
set_option maxRecDepth 100000 in
theorem yM_MS_codeOfKey : wCy M_MS_codeOfKey 2 := ⟨wIn 547 rfl (by decide +kernel), wIn 3 (by decide +kernel) (by decide +kernel), by decide +kernel, by decide +kernel, by decide +kernel, by decide +kernel⟩
theorem sM_MS_codeOfKey : Cond.static M_MS_codeOfKey.1 ∈ wWL := wIn 546 (by decide +kernel) (by decide +kernel)
def M_MS_holdsCode : wM := (⟨"CodePointSets$MemberSet", "holdsCode", "(I)Z"⟩, prog_4_method_16_code, 6, (some (.boolean)))
set_option maxRecDepth 100000 in
theorem yM_MS_holdsCode : wCy M_MS_holdsCode 1 := ⟨wIn 585 rfl (by decide +kernel), wIn 3 (by decide +kernel) (by decide +kernel), by decide +kernel, by decide +kernel, by decide +kernel, by decide +kernel⟩
theorem vM_MS_holdsCode : wCv M_MS_holdsCode := ⟨wIn 583 (by decide +kernel) (by decide +kernel), wIn 584 (by decide +kernel) (by decide +kernel)⟩
def M_MS_codeCount : wM := (⟨"CodePointSets$MemberSet", "codeCount", "()I"⟩, prog_4_method_18_code, 3, (some (.int)))
set_option maxRecDepth 100000 in
theorem yM_MS_codeCount : wCy M_MS_codeCount 0 := ⟨wIn 592 rfl (by decide +kernel), wIn 3 (by decide +kernel) (by decide +kernel), by decide +kernel, by decide +kernel, by decide +kernel, by decide +kernel⟩
theorem vM_MS_codeCount : wCv M_MS_codeCount := ⟨wIn 590 (by decide +kernel) (by decide +kernel), wIn 591 (by decide +kernel) (by decide +kernel)⟩
def M_MS_holdsString : wM := (⟨"CodePointSets$MemberSet", "holdsString", "(J)Z"⟩, prog_4_method_17_code, 4, (some (.boolean)))
set_option maxRecDepth 100000 in
theorem yM_MS_holdsString : wCy M_MS_holdsString 1 := ⟨wIn 610 rfl (by decide +kernel), wIn 3 (by decide +kernel) (by decide +kernel), by decide +kernel, by decide +kernel, by decide +kernel, by decide +kernel⟩
theorem vM_MS_holdsString : wCv M_MS_holdsString := ⟨wIn 608 (by decide +kernel) (by decide +kernel), wIn 609 (by decide +kernel) (by decide +kernel)⟩
def M_MS_codeOfRank : wM := (⟨"CodePointSets$MemberSet", "codeOfRank", "(I)I"⟩, prog_4_method_19_code, 5, (some (.int)))
set_option maxRecDepth 100000 in
theorem yM_MS_codeOfRank : wCy M_MS_codeOfRank 1 := ⟨wIn 634 rfl (by decide +kernel), wIn 3 (by decide +kernel) (by decide +kernel), by decide +kernel, by decide +kernel, by decide +kernel, by decide +kernel⟩
theorem vM_MS_codeOfRank : wCv M_MS_codeOfRank := ⟨wIn 632 (by decide +kernel) (by decide +kernel), wIn 633 (by decide +kernel) (by decide +kernel)⟩
/-! links of the pools of MS: written by wip/gen/mknames.py -/
theorem o_MS_5 : Cond.methodLink "CodePointSets$MemberSet" 5 Lib.objectInit ∈ wWL := wIn 48 (by decide +kernel) (by decide +kernel)
theorem f_MS_11 : wF "CodePointSets$MemberSet" 11 1 0 := ⟨("CodePointSets$MemberSet", wT_MS, 4), rfl, by decide, Or.inl (wIn 49 (by decide +kernel) (by decide +kernel))⟩
theorem f_MS_21 : wF "CodePointSets$MemberSet" 21 1 1 := ⟨("CodePointSets$MemberSet", wT_MS, 4), rfl, by decide, Or.inl (wIn 53 (by decide +kernel) (by decide +kernel))⟩
theorem f_MS_15 : wF "CodePointSets$MemberSet" 15 1 2 := ⟨("CodePointSets$MemberSet", wT_MS, 4), rfl, by decide, Or.inl (wIn 55 (by decide +kernel) (by decide +kernel))⟩
theorem f_MS_25 : wF "CodePointSets$MemberSet" 25 1 3 := ⟨("CodePointSets$MemberSet", wT_MS, 4), rfl, by decide, Or.inl (wIn 58 (by decide +kernel) (by decide +kernel))⟩
theorem l_MS_34 : wCl "CodePointSets$MemberSet" 34 M_MS_clear := Or.inl (wIn 409 (by decide +kernel) (by decide +kernel))
theorem l_MS_37 : wCl "CodePointSets$MemberSet" 37 M_MS_toggleEdge := Or.inl (wIn 410 (by decide +kernel) (by decide +kernel))
theorem k_MS_45 : Cond.constant "CodePointSets$MemberSet" 45 1114112 ∈ wWL := wIn 414 (by decide +kernel) (by decide +kernel)
theorem l_MS_46 : wCl "CodePointSets$MemberSet" 46 M_MS_mergeEdges := Or.inl (wIn 423 (by decide +kernel) (by decide +kernel))
theorem l_MS_53 : wCl "CodePointSets$MemberSet" 53 M_MS_isKept := Or.inl (wIn 427 (by decide +kernel) (by decide +kernel))
theorem l_MS_50 : wCl "CodePointSets$MemberSet" 50 M_MS_mergeKeys := Or.inl (wIn 430 (by decide +kernel) (by decide +kernel))
theorem k_MS_57 : Cond.constantLong "CodePointSets$MemberSet" 57 9223372036854775807 ∈ wWL := wIn 434 (by decide +kernel) (by decide +kernel)
theorem l_MS_41 : wCl "CodePointSets$MemberSet" 41 M_MS_appendKey := Or.inl (wIn 435 (by decide +kernel) (by decide +kernel))
theorem a_MS_28 : Cond.methodLink "CodePointSets$MemberSet" 28 arraycopyName ∈ wWL := wIn 510 (by decide +kernel) (by decide +kernel)
theorem k_MS_19 : Cond.constantLong "CodePointSets$MemberSet" 19 2097151 ∈ wWL := wIn 548 (by decide +kernel) (by decide +kernel)
