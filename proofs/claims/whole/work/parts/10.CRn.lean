/-! methods of CR: written by wip/gen/mknames.py -/
def M_CR_init : wM := (⟨"CodePointSets$CodeRow", "<init>", "()V"⟩, prog_3_method_1_code, 1, none)
theorem yM_CR_init : wCy M_CR_init 0 := ⟨wIn 28 rfl (by decide +kernel), wIn 2 (by decide +kernel) (by decide +kernel), by decide +kernel, by decide +kernel, by decide +kernel, by decide +kernel⟩
theorem iM_CR_init : Cond.instanceMethod M_CR_init.1 ∈ wWL := wIn 27 (by decide +kernel) (by decide +kernel)
def M_CR_append : wM := (⟨"CodePointSets$CodeRow", "append", "(I)Z"⟩, prog_3_method_2_code, 2, (some (.boolean)))
theorem yM_CR_append : wCy M_CR_append 1 := ⟨wIn 207 rfl (by decide +kernel), wIn 2 (by decide +kernel) (by decide +kernel), by decide +kernel, by decide +kernel, by decide +kernel, by decide +kernel⟩
theorem vM_CR_append : wCv M_CR_append := ⟨wIn 205 (by decide +kernel) (by decide +kernel), wIn 206 (by decide +kernel) (by decide +kernel)⟩
def M_CR_clear : wM := (⟨"CodePointSets$CodeRow", "clear", "()V"⟩, prog_3_method_3_code, 1, none)
theorem yM_CR_clear : wCy M_CR_clear 0 := ⟨wIn 215 rfl (by decide +kernel), wIn 2 (by decide +kernel) (by decide +kernel), by decide +kernel, by decide +kernel, by decide +kernel, by decide +kernel⟩
theorem vM_CR_clear : wCv M_CR_clear := ⟨wIn 213 (by decide +kernel) (by decide +kernel), wIn 214 (by decide +kernel) (by decide +kernel)⟩
def M_CR_codeAt : wM := (⟨"CodePointSets$CodeRow", "codeAt", "(I)I"⟩, prog_3_method_4_code, 2, (some (.int)))
theorem yM_CR_codeAt : wCy M_CR_codeAt 1 := ⟨wIn 227 rfl (by decide +kernel), wIn 2 (by decide +kernel) (by decide +kernel), by decide +kernel, by decide +kernel, by decide +kernel, by decide +kernel⟩
theorem vM_CR_codeAt : wCv M_CR_codeAt := ⟨wIn 225 (by decide +kernel) (by decide +kernel), wIn 226 (by decide +kernel) (by decide +kernel)⟩
def M_CR_become : wM := (⟨"CodePointSets$CodeRow", "become", "(LCodePointSets$CodeRow;)V"⟩, prog_3_method_5_code, 2, none)
theorem yM_CR_become : wCy M_CR_become 1 := ⟨wIn 243 rfl (by decide +kernel), wIn 2 (by decide +kernel) (by decide +kernel), by decide +kernel, by decide +kernel, by decide +kernel, by decide +kernel⟩
theorem vM_CR_become : wCv M_CR_become := ⟨wIn 241 (by decide +kernel) (by decide +kernel), wIn 242 (by decide +kernel) (by decide +kernel)⟩
/-! links of the pools of CR: written by wip/gen/mknames.py -/
theorem o_CR_3 : Cond.methodLink "CodePointSets$CodeRow" 3 Lib.objectInit ∈ wWL := wIn 29 (by decide +kernel) (by decide +kernel)
theorem f_CR_9 : wF "CodePointSets$CodeRow" 9 0 0 := ⟨("CodePointSets$CodeRow", wT_CR, 2), rfl, by decide, Or.inl (wIn 30 (by decide +kernel) (by decide +kernel))⟩
theorem f_CR_15 : wF "CodePointSets$CodeRow" 15 0 1 := ⟨("CodePointSets$CodeRow", wT_CR, 2), rfl, by decide, Or.inl (wIn 32 (by decide +kernel) (by decide +kernel))⟩
theorem a_CR_19 : Cond.methodLink "CodePointSets$CodeRow" 19 arraycopyName ∈ wWL := wIn 244 (by decide +kernel) (by decide +kernel)
