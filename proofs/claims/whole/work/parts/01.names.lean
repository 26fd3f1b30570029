/-! names: written by wip/gen/mknames.py out of the claim's Statement and javap's listing -/
def wWL : List Cond := lw_tbl.filter goodWord
theorem wWL_ok : ∀ w ∈ wWL, (w.onTables && w.keeps) = true ∨ ∃ ty, w = .arrayClass ty := fun w h => good_of_word (List.mem_filter.mp h).2
theorem wIn (i : Nat) {w : Cond} (h : tables_1[i]? = some w) (hg : goodWord w = true) : w ∈ wWL := List.mem_filter.mpr ⟨List.mem_append_right _ (List.mem_of_getElem? h), hg⟩
theorem wSel {y : MethodName} {n : Nat} (h : (y, n) ∈ lw_privs) : Cond.selects y.cls y y ∈ wWL := List.mem_filter.mpr ⟨List.mem_append_left _ (by unfold k2_sels; exact List.mem_map.mpr ⟨(y, n), h, rfl⟩), rfl⟩
def wT_CR : u_T := fun k => match k with
  | 0 => ("CodePointSets$CodeRow", "codes", "[I", true)
  | _ => ("CodePointSets$CodeRow", "count", "I", false)
def wy_CR : Nat → FieldType := fun k => match k with
  | 0 => .array .int
  | _ => .int
theorem wy_CR_ok : ∀ k, k < 2 → parseFieldDescriptor (wT_CR k).2.2.1 = some (wy_CR k) := by decide +kernel
theorem wn_CR_ok : ∀ a, a < 2 → ∀ b, b < 2 → a ≠ b → (wT_CR a).2.1 ≠ (wT_CR b).2.1 := by decide +kernel
theorem wi_CR_ok : ∀ w ∈ u_ws "CodePointSets$CodeRow" wT_CR 2, w ∈ wWL := by
  show ∀ w ∈ [u_lay "CodePointSets$CodeRow" wT_CR 0, u_lay "CodePointSets$CodeRow" wT_CR 1], w ∈ wWL
  exact List.forall_mem_cons.mpr ⟨wIn 36 (by decide +kernel) (by decide +kernel), List.forall_mem_cons.mpr ⟨wIn 38 (by decide +kernel) (by decide +kernel), fun _ h => absurd h List.not_mem_nil⟩⟩
def wT_MS : u_T := fun k => match k with
  | 0 => ("CodePointSets$MemberSet", "edges", "[I", true)
  | 1 => ("CodePointSets$MemberSet", "edgeCount", "I", false)
  | 2 => ("CodePointSets$MemberSet", "keys", "[J", true)
  | _ => ("CodePointSets$MemberSet", "stringCount", "I", false)
def wy_MS : Nat → FieldType := fun k => match k with
  | 0 => .array .int
  | 1 => .int
  | 2 => .array .long
  | _ => .int
theorem wy_MS_ok : ∀ k, k < 4 → parseFieldDescriptor (wT_MS k).2.2.1 = some (wy_MS k) := by decide +kernel
theorem wn_MS_ok : ∀ a, a < 4 → ∀ b, b < 4 → a ≠ b → (wT_MS a).2.1 ≠ (wT_MS b).2.1 := by decide +kernel
theorem wi_MS_ok : ∀ w ∈ u_ws "CodePointSets$MemberSet" wT_MS 4, w ∈ wWL := by
  show ∀ w ∈ [u_lay "CodePointSets$MemberSet" wT_MS 0, u_lay "CodePointSets$MemberSet" wT_MS 1, u_lay "CodePointSets$MemberSet" wT_MS 2, u_lay "CodePointSets$MemberSet" wT_MS 3], w ∈ wWL
  exact List.forall_mem_cons.mpr ⟨wIn 61 (by decide +kernel) (by decide +kernel), List.forall_mem_cons.mpr ⟨wIn 63 (by decide +kernel) (by decide +kernel), List.forall_mem_cons.mpr ⟨wIn 65 (by decide +kernel) (by decide +kernel), List.forall_mem_cons.mpr ⟨wIn 67 (by decide +kernel) (by decide +kernel), fun _ h => absurd h List.not_mem_nil⟩⟩⟩⟩
def wT_OB : u_T := fun k => match k with
  | 0 => ("CodePointSets$OpenBracket", "value", "LCodePointSets$MemberSet;", false)
  | 1 => ("CodePointSets$OpenBracket", "others", "Z", false)
  | 2 => ("CodePointSets$OpenBracket", "itemCount", "I", false)
  | 3 => ("CodePointSets$OpenBracket", "behindSet", "Z", false)
  | _ => ("CodePointSets$OpenBracket", "how", "I", false)
def wy_OB : Nat → FieldType := fun k => match k with
  | 0 => .object "CodePointSets$MemberSet"
  | 1 => .boolean
  | 2 => .int
  | 3 => .boolean
  | _ => .int
theorem wy_OB_ok : ∀ k, k < 5 → parseFieldDescriptor (wT_OB k).2.2.1 = some (wy_OB k) := by decide +kernel
theorem wn_OB_ok : ∀ a, a < 5 → ∀ b, b < 5 → a ≠ b → (wT_OB a).2.1 ≠ (wT_OB b).2.1 := by decide +kernel
theorem wi_OB_ok : ∀ w ∈ u_ws "CodePointSets$OpenBracket" wT_OB 5, w ∈ wWL := by
  show ∀ w ∈ [u_lay "CodePointSets$OpenBracket" wT_OB 0, u_lay "CodePointSets$OpenBracket" wT_OB 1, u_lay "CodePointSets$OpenBracket" wT_OB 2, u_lay "CodePointSets$OpenBracket" wT_OB 3, u_lay "CodePointSets$OpenBracket" wT_OB 4], w ∈ wWL
  exact List.forall_mem_cons.mpr ⟨wIn 126 (by decide +kernel) (by decide +kernel), List.forall_mem_cons.mpr ⟨wIn 128 (by decide +kernel) (by decide +kernel), List.forall_mem_cons.mpr ⟨wIn 130 (by decide +kernel) (by decide +kernel), List.forall_mem_cons.mpr ⟨wIn 132 (by decide +kernel) (by decide +kernel), List.forall_mem_cons.mpr ⟨wIn 134 (by decide +kernel) (by decide +kernel), fun _ h => absurd h List.not_mem_nil⟩⟩⟩⟩⟩
def wT_PR : u_T := fun k => match k with
  | 0 => ("CodePointSets$PatternReader", "tokens", "LCodePointSets$TokenRow;", true)
  | 1 => ("CodePointSets$PatternReader", "brackets", "[LCodePointSets$OpenBracket;", true)
  | 2 => ("CodePointSets$PatternReader", "depth", "I", false)
  | 3 => ("CodePointSets$PatternReader", "next", "I", false)
  | 4 => ("CodePointSets$PatternReader", "operand", "LCodePointSets$MemberSet;", false)
  | 5 => ("CodePointSets$PatternReader", "spare", "LCodePointSets$MemberSet;", false)
  | _ => ("CodePointSets$PatternReader", "value", "LCodePointSets$MemberSet;", false)
def wy_PR : Nat → FieldType := fun k => match k with
  | 0 => .object "CodePointSets$TokenRow"
  | 1 => .array (.object "CodePointSets$OpenBracket")
  | 2 => .int
  | 3 => .int
  | 4 => .object "CodePointSets$MemberSet"
  | 5 => .object "CodePointSets$MemberSet"
  | _ => .object "CodePointSets$MemberSet"
theorem wy_PR_ok : ∀ k, k < 7 → parseFieldDescriptor (wT_PR k).2.2.1 = some (wy_PR k) := by decide +kernel
theorem wn_PR_ok : ∀ a, a < 7 → ∀ b, b < 7 → a ≠ b → (wT_PR a).2.1 ≠ (wT_PR b).2.1 := by decide +kernel
theorem wi_PR_ok : ∀ w ∈ u_ws "CodePointSets$PatternReader" wT_PR 7, w ∈ wWL := by
  show ∀ w ∈ [u_lay "CodePointSets$PatternReader" wT_PR 0, u_lay "CodePointSets$PatternReader" wT_PR 1, u_lay "CodePointSets$PatternReader" wT_PR 2, u_lay "CodePointSets$PatternReader" wT_PR 3, u_lay "CodePointSets$PatternReader" wT_PR 4, u_lay "CodePointSets$PatternReader" wT_PR 5, u_lay "CodePointSets$PatternReader" wT_PR 6], w ∈ wWL
  exact List.forall_mem_cons.mpr ⟨wIn 146 (by decide +kernel) (by decide +kernel), List.forall_mem_cons.mpr ⟨wIn 148 (by decide +kernel) (by decide +kernel), List.forall_mem_cons.mpr ⟨wIn 150 (by decide +kernel) (by decide +kernel), List.forall_mem_cons.mpr ⟨wIn 152 (by decide +kernel) (by decide +kernel), List.forall_mem_cons.mpr ⟨wIn 154 (by decide +kernel) (by decide +kernel), List.forall_mem_cons.mpr ⟨wIn 156 (by decide +kernel) (by decide +kernel), List.forall_mem_cons.mpr ⟨wIn 158 (by decide +kernel) (by decide +kernel), fun _ h => absurd h List.not_mem_nil⟩⟩⟩⟩⟩⟩⟩
def wT_PW : u_T := fun k => match k with
  | 0 => ("CodePointSets$PatternWriter", "row", "LCodePointSets$CodeRow;", true)
  | _ => ("CodePointSets$PatternWriter", "fits", "Z", false)
def wy_PW : Nat → FieldType := fun k => match k with
  | 0 => .object "CodePointSets$CodeRow"
  | _ => .boolean
theorem wy_PW_ok : ∀ k, k < 2 → parseFieldDescriptor (wT_PW k).2.2.1 = some (wy_PW k) := by decide +kernel
theorem wn_PW_ok : ∀ a, a < 2 → ∀ b, b < 2 → a ≠ b → (wT_PW a).2.1 ≠ (wT_PW b).2.1 := by decide +kernel
theorem wi_PW_ok : ∀ w ∈ u_ws "CodePointSets$PatternWriter" wT_PW 2, w ∈ wWL := by
  show ∀ w ∈ [u_lay "CodePointSets$PatternWriter" wT_PW 0, u_lay "CodePointSets$PatternWriter" wT_PW 1], w ∈ wWL
  exact List.forall_mem_cons.mpr ⟨wIn 172 (by decide +kernel) (by decide +kernel), List.forall_mem_cons.mpr ⟨wIn 174 (by decide +kernel) (by decide +kernel), fun _ h => absurd h List.not_mem_nil⟩⟩
def wT_TR : u_T := fun k => match k with
  | 0 => ("CodePointSets$TokenRow", "text", "LCodePointSets$CodeRow;", true)
  | 1 => ("CodePointSets$TokenRow", "kinds", "[I", true)
  | 2 => ("CodePointSets$TokenRow", "values", "[I", true)
  | 3 => ("CodePointSets$TokenRow", "letters", "LCodePointSets$CodeRow;", true)
  | 4 => ("CodePointSets$TokenRow", "count", "I", false)
  | _ => ("CodePointSets$TokenRow", "position", "I", false)
def wy_TR : Nat → FieldType := fun k => match k with
  | 0 => .object "CodePointSets$CodeRow"
  | 1 => .array .int
  | 2 => .array .int
  | 3 => .object "CodePointSets$CodeRow"
  | 4 => .int
  | _ => .int
theorem wy_TR_ok : ∀ k, k < 6 → parseFieldDescriptor (wT_TR k).2.2.1 = some (wy_TR k) := by decide +kernel
theorem wn_TR_ok : ∀ a, a < 6 → ∀ b, b < 6 → a ≠ b → (wT_TR a).2.1 ≠ (wT_TR b).2.1 := by decide +kernel
theorem wi_TR_ok : ∀ w ∈ u_ws "CodePointSets$TokenRow" wT_TR 6, w ∈ wWL := by
  show ∀ w ∈ [u_lay "CodePointSets$TokenRow" wT_TR 0, u_lay "CodePointSets$TokenRow" wT_TR 1, u_lay "CodePointSets$TokenRow" wT_TR 2, u_lay "CodePointSets$TokenRow" wT_TR 3, u_lay "CodePointSets$TokenRow" wT_TR 4, u_lay "CodePointSets$TokenRow" wT_TR 5], w ∈ wWL
  exact List.forall_mem_cons.mpr ⟨wIn 92 (by decide +kernel) (by decide +kernel), List.forall_mem_cons.mpr ⟨wIn 94 (by decide +kernel) (by decide +kernel), List.forall_mem_cons.mpr ⟨wIn 96 (by decide +kernel) (by decide +kernel), List.forall_mem_cons.mpr ⟨wIn 98 (by decide +kernel) (by decide +kernel), List.forall_mem_cons.mpr ⟨wIn 100 (by decide +kernel) (by decide +kernel), List.forall_mem_cons.mpr ⟨wIn 102 (by decide +kernel) (by decide +kernel), fun _ h => absurd h List.not_mem_nil⟩⟩⟩⟩⟩⟩
def wT_CP : u_T := fun k => match k with
  | 0 => ("CodePointSets", "text", "LCodePointSets$CodeRow;", true)
  | 1 => ("CodePointSets", "registers", "[LCodePointSets$MemberSet;", true)
  | 2 => ("CodePointSets", "reader", "LCodePointSets$PatternReader;", true)
  | 3 => ("CodePointSets", "writer", "LCodePointSets$PatternWriter;", true)
  | 4 => ("CodePointSets", "alikes", "LCodePointSets$MemberSet;", true)
  | _ => ("CodePointSets", "spare", "LCodePointSets$MemberSet;", false)
def wy_CP : Nat → FieldType := fun k => match k with
  | 0 => .object "CodePointSets$CodeRow"
  | 1 => .array (.object "CodePointSets$MemberSet")
  | 2 => .object "CodePointSets$PatternReader"
  | 3 => .object "CodePointSets$PatternWriter"
  | 4 => .object "CodePointSets$MemberSet"
  | _ => .object "CodePointSets$MemberSet"
theorem wy_CP_ok : ∀ k, k < 6 → parseFieldDescriptor (wT_CP k).2.2.1 = some (wy_CP k) := by decide +kernel
theorem wn_CP_ok : ∀ a, a < 6 → ∀ b, b < 6 → a ≠ b → (wT_CP a).2.1 ≠ (wT_CP b).2.1 := by decide +kernel
theorem wi_CP_ok : ∀ w ∈ u_ws "CodePointSets" wT_CP 6, w ∈ wWL := by
  show ∀ w ∈ [u_lay "CodePointSets" wT_CP 0, u_lay "CodePointSets" wT_CP 1, u_lay "CodePointSets" wT_CP 2, u_lay "CodePointSets" wT_CP 3, u_lay "CodePointSets" wT_CP 4, u_lay "CodePointSets" wT_CP 5], w ∈ wWL
  exact List.forall_mem_cons.mpr ⟨wIn 183 (by decide +kernel) (by decide +kernel), List.forall_mem_cons.mpr ⟨wIn 185 (by decide +kernel) (by decide +kernel), List.forall_mem_cons.mpr ⟨wIn 187 (by decide +kernel) (by decide +kernel), List.forall_mem_cons.mpr ⟨wIn 189 (by decide +kernel) (by decide +kernel), List.forall_mem_cons.mpr ⟨wIn 191 (by decide +kernel) (by decide +kernel), List.forall_mem_cons.mpr ⟨wIn 193 (by decide +kernel) (by decide +kernel), fun _ h => absurd h List.not_mem_nil⟩⟩⟩⟩⟩⟩
def wT_MO : u_T := fun k => match k with
  | 0 => ("CodePointSetsModel", "text", "[I", false)
  | 1 => ("CodePointSetsModel", "size", "I", false)
  | 2 => ("CodePointSetsModel", "edges", "[I", false)
  | 3 => ("CodePointSetsModel", "edgeCount", "[I", false)
  | 4 => ("CodePointSetsModel", "strings", "[J", false)
  | 5 => ("CodePointSetsModel", "stringCount", "[I", false)
  | 6 => ("CodePointSetsModel", "at", "I", false)
  | 7 => ("CodePointSetsModel", "good", "Z", false)
  | 8 => ("CodePointSetsModel", "depth", "I", false)
  | 9 => ("CodePointSetsModel", "turned", "[Z", false)
  | 10 => ("CodePointSetsModel", "before", "[I", false)
  | 11 => ("CodePointSetsModel", "sign", "[I", false)
  | 12 => ("CodePointSetsModel", "out", "[I", false)
  | 13 => ("CodePointSetsModel", "written", "I", false)
  | 14 => ("CodePointSetsModel", "fits", "Z", false)
  | _ => ("CodePointSetsModel", "reached", "[Z", false)
def wy_MO : Nat → FieldType := fun k => match k with
  | 0 => .array .int
  | 1 => .int
  | 2 => .array .int
  | 3 => .array .int
  | 4 => .array .long
  | 5 => .array .int
  | 6 => .int
  | 7 => .boolean
  | 8 => .int
  | 9 => .array .boolean
  | 10 => .array .int
  | 11 => .array .int
  | 12 => .array .int
  | 13 => .int
  | 14 => .boolean
  | _ => .array .boolean
theorem wy_MO_ok : ∀ k, k < 16 → parseFieldDescriptor (wT_MO k).2.2.1 = some (wy_MO k) := by decide +kernel
theorem wn_MO_ok : ∀ a, a < 16 → ∀ b, b < 16 → a ≠ b → (wT_MO a).2.1 ≠ (wT_MO b).2.1 := by decide +kernel
theorem wi_MO_ok : ∀ w ∈ u_ws "CodePointSetsModel" wT_MO 16, w ∈ wWL := by
  show ∀ w ∈ [u_lay "CodePointSetsModel" wT_MO 0, u_lay "CodePointSetsModel" wT_MO 1, u_lay "CodePointSetsModel" wT_MO 2, u_lay "CodePointSetsModel" wT_MO 3, u_lay "CodePointSetsModel" wT_MO 4, u_lay "CodePointSetsModel" wT_MO 5, u_lay "CodePointSetsModel" wT_MO 6, u_lay "CodePointSetsModel" wT_MO 7, u_lay "CodePointSetsModel" wT_MO 8, u_lay "CodePointSetsModel" wT_MO 9, u_lay "CodePointSetsModel" wT_MO 10, u_lay "CodePointSetsModel" wT_MO 11, u_lay "CodePointSetsModel" wT_MO 12, u_lay "CodePointSetsModel" wT_MO 13, u_lay "CodePointSetsModel" wT_MO 14, u_lay "CodePointSetsModel" wT_MO 15], w ∈ wWL
  exact List.forall_mem_cons.mpr ⟨wIn 670 (by decide +kernel) (by decide +kernel), List.forall_mem_cons.mpr ⟨wIn 672 (by decide +kernel) (by decide +kernel), List.forall_mem_cons.mpr ⟨wIn 674 (by decide +kernel) (by decide +kernel), List.forall_mem_cons.mpr ⟨wIn 676 (by decide +kernel) (by decide +kernel), List.forall_mem_cons.mpr ⟨wIn 678 (by decide +kernel) (by decide +kernel), List.forall_mem_cons.mpr ⟨wIn 680 (by decide +kernel) (by decide +kernel), List.forall_mem_cons.mpr ⟨wIn 682 (by decide +kernel) (by decide +kernel), List.forall_mem_cons.mpr ⟨wIn 684 (by decide +kernel) (by decide +kernel), List.forall_mem_cons.mpr ⟨wIn 686 (by decide +kernel) (by decide +kernel), List.forall_mem_cons.mpr ⟨wIn 688 (by decide +kernel) (by decide +kernel), List.forall_mem_cons.mpr ⟨wIn 690 (by decide +kernel) (by decide +kernel), List.forall_mem_cons.mpr ⟨wIn 692 (by decide +kernel) (by decide +kernel), List.forall_mem_cons.mpr ⟨wIn 694 (by decide +kernel) (by decide +kernel), List.forall_mem_cons.mpr ⟨wIn 696 (by decide +kernel) (by decide +kernel), List.forall_mem_cons.mpr ⟨wIn 698 (by decide +kernel) (by decide +kernel), List.forall_mem_cons.mpr ⟨wIn 700 (by decide +kernel) (by decide +kernel), fun _ h => absurd h List.not_mem_nil⟩⟩⟩⟩⟩⟩⟩⟩⟩⟩⟩⟩⟩⟩⟩⟩
abbrev wcl : List vw_C := [("CodePointSets$CodeRow", wT_CR, 2), ("CodePointSets$MemberSet", wT_MS, 4), ("CodePointSets$OpenBracket", wT_OB, 5), ("CodePointSets$PatternReader", wT_PR, 7), ("CodePointSets$PatternWriter", wT_PW, 2), ("CodePointSets$TokenRow", wT_TR, 6), ("CodePointSets", wT_CP, 6), ("CodePointSetsModel", wT_MO, 16)]
def wct : Nat → Nat → FieldType := fun c => match c with
  | 0 => wy_CR
  | 1 => wy_MS
  | 2 => wy_OB
  | 3 => wy_PR
  | 4 => wy_PW
  | 5 => wy_TR
  | 6 => wy_CP
  | _ => wy_MO
theorem wcl_in : ∀ (ci : Nat) (r : vw_C), wcl[ci]? = some r → ∀ w ∈ u_ws r.1 r.2.1 r.2.2, w ∈ wWL := by
  intro ci r h
  match ci, h with
  | 0, h =>
    have e : ("CodePointSets$CodeRow", wT_CR, 2) = r := Option.some.inj h
    subst e
    exact wi_CR_ok
  | 1, h =>
    have e : ("CodePointSets$MemberSet", wT_MS, 4) = r := Option.some.inj h
    subst e
    exact wi_MS_ok
  | 2, h =>
    have e : ("CodePointSets$OpenBracket", wT_OB, 5) = r := Option.some.inj h
    subst e
    exact wi_OB_ok
  | 3, h =>
    have e : ("CodePointSets$PatternReader", wT_PR, 7) = r := Option.some.inj h
    subst e
    exact wi_PR_ok
  | 4, h =>
    have e : ("CodePointSets$PatternWriter", wT_PW, 2) = r := Option.some.inj h
    subst e
    exact wi_PW_ok
  | 5, h =>
    have e : ("CodePointSets$TokenRow", wT_TR, 6) = r := Option.some.inj h
    subst e
    exact wi_TR_ok
  | 6, h =>
    have e : ("CodePointSets", wT_CP, 6) = r := Option.some.inj h
    subst e
    exact wi_CP_ok
  | 7, h =>
    have e : ("CodePointSetsModel", wT_MO, 16) = r := Option.some.inj h
    subst e
    exact wi_MO_ok
  | n + 8, h => exact absurd h (by simp [wcl])
theorem wct_ok : ∀ (ci : Nat) (r : vw_C), wcl[ci]? = some r → ∀ k, k < r.2.2 → parseFieldDescriptor (r.2.1 k).2.2.1 = some (wct ci k) := by
  intro ci r h
  match ci, h with
  | 0, h =>
    have e : ("CodePointSets$CodeRow", wT_CR, 2) = r := Option.some.inj h
    subst e
    exact wy_CR_ok
  | 1, h =>
    have e : ("CodePointSets$MemberSet", wT_MS, 4) = r := Option.some.inj h
    subst e
    exact wy_MS_ok
  | 2, h =>
    have e : ("CodePointSets$OpenBracket", wT_OB, 5) = r := Option.some.inj h
    subst e
    exact wy_OB_ok
  | 3, h =>
    have e : ("CodePointSets$PatternReader", wT_PR, 7) = r := Option.some.inj h
    subst e
    exact wy_PR_ok
  | 4, h =>
    have e : ("CodePointSets$PatternWriter", wT_PW, 2) = r := Option.some.inj h
    subst e
    exact wy_PW_ok
  | 5, h =>
    have e : ("CodePointSets$TokenRow", wT_TR, 6) = r := Option.some.inj h
    subst e
    exact wy_TR_ok
  | 6, h =>
    have e : ("CodePointSets", wT_CP, 6) = r := Option.some.inj h
    subst e
    exact wy_CP_ok
  | 7, h =>
    have e : ("CodePointSetsModel", wT_MO, 16) = r := Option.some.inj h
    subst e
    exact wy_MO_ok
  | n + 8, h => exact absurd h (by simp [wcl])
theorem wcn_ok : ∀ (ci : Nat) (r : vw_C), wcl[ci]? = some r → ∀ a, a < r.2.2 → ∀ b, b < r.2.2 → a ≠ b → (r.2.1 a).2.1 ≠ (r.2.1 b).2.1 := by
  intro ci r h
  match ci, h with
  | 0, h =>
    have e : ("CodePointSets$CodeRow", wT_CR, 2) = r := Option.some.inj h
    subst e
    exact wn_CR_ok
  | 1, h =>
    have e : ("CodePointSets$MemberSet", wT_MS, 4) = r := Option.some.inj h
    subst e
    exact wn_MS_ok
  | 2, h =>
    have e : ("CodePointSets$OpenBracket", wT_OB, 5) = r := Option.some.inj h
    subst e
    exact wn_OB_ok
  | 3, h =>
    have e : ("CodePointSets$PatternReader", wT_PR, 7) = r := Option.some.inj h
    subst e
    exact wn_PR_ok
  | 4, h =>
    have e : ("CodePointSets$PatternWriter", wT_PW, 2) = r := Option.some.inj h
    subst e
    exact wn_PW_ok
  | 5, h =>
    have e : ("CodePointSets$TokenRow", wT_TR, 6) = r := Option.some.inj h
    subst e
    exact wn_TR_ok
  | 6, h =>
    have e : ("CodePointSets", wT_CP, 6) = r := Option.some.inj h
    subst e
    exact wn_CP_ok
  | 7, h =>
    have e : ("CodePointSetsModel", wT_MO, 16) = r := Option.some.inj h
    subst e
    exact wn_MO_ok
  | n + 8, h => exact absurd h (by simp [wcl])
def wfn (ci k : Nat) : Bool := match wcl[ci]? with
  | some r => (r.2.1 k).2.2.2
  | none => true
theorem wfn_ok (ci : Nat) (r : vw_C) (h : wcl[ci]? = some r) (k : Nat) (hf : wfn ci k = false) : (r.2.1 k).2.2.2 = false := by
  unfold wfn at hf
  rw [h] at hf
  exact hf
def wff (ci k : Nat) (own : String) : Bool := match wcl[ci]? with
  | some r => (r.2.1 k).2.2.2 && (r.2.1 k).1 == own
  | none => false
theorem wff_ok (ci : Nat) (r : vw_C) (h : wcl[ci]? = some r) (k : Nat) (own : String) (hf : wff ci k own = true) : (r.2.1 k).2.2.2 = true ∧ (r.2.1 k).1 = own := by
  unfold wff at hf
  rw [h] at hf
  simpa using hf
def wNF : List (String × Nat × String × String × String × String) := [("CodePointSets$NamedSets", 31, "CodePointSets$CodeRow", "codes", "[I", "CodePointSets"), ("CodePointSets$NamedSets", 19, "CodePointSets$CodeRow", "count", "I", "CodePointSets"), ("CodePointSets", 54, "CodePointSets$CodeRow", "count", "I", "CodePointSets"), ("CodePointSets$TokenRow", 46, "CodePointSets$CodeRow", "count", "I", "CodePointSets"), ("CodePointSets$PatternWriter", 35, "CodePointSets$MemberSet", "edges", "[I", "CodePointSets"), ("CodePointSets", 130, "CodePointSets$MemberSet", "edges", "[I", "CodePointSets"), ("CodePointSets$PatternWriter", 29, "CodePointSets$MemberSet", "edgeCount", "I", "CodePointSets"), ("CodePointSets", 127, "CodePointSets$MemberSet", "edgeCount", "I", "CodePointSets"), ("CodePointSets$PatternWriter", 46, "CodePointSets$MemberSet", "keys", "[J", "CodePointSets"), ("CodePointSets$PatternWriter", 43, "CodePointSets$MemberSet", "stringCount", "I", "CodePointSets"), ("CodePointSets$PatternReader", 95, "CodePointSets$MemberSet", "stringCount", "I", "CodePointSets"), ("CodePointSets", 104, "CodePointSets$MemberSet", "stringCount", "I", "CodePointSets"), ("CodePointSets$PatternReader", 45, "CodePointSets$TokenRow", "count", "I", "CodePointSets"), ("CodePointSets$PatternReader", 94, "CodePointSets$OpenBracket", "value", "LCodePointSets$MemberSet;", "CodePointSets"), ("CodePointSets$PatternReader", 90, "CodePointSets$OpenBracket", "others", "Z", "CodePointSets"), ("CodePointSets$PatternReader", 131, "CodePointSets$OpenBracket", "itemCount", "I", "CodePointSets"), ("CodePointSets$PatternReader", 134, "CodePointSets$OpenBracket", "behindSet", "Z", "CodePointSets"), ("CodePointSets$PatternReader", 137, "CodePointSets$OpenBracket", "how", "I", "CodePointSets"), ("CodePointSets", 66, "CodePointSets$PatternReader", "tokens", "LCodePointSets$TokenRow;", "CodePointSets"), ("CodePointSets", 80, "CodePointSets$PatternReader", "value", "LCodePointSets$MemberSet;", "CodePointSets"), ("CodePointSets", 91, "CodePointSets$PatternWriter", "row", "LCodePointSets$CodeRow;", "CodePointSets")]
def wNM : List (String × Nat × MethodName × String) := [("CodePointSets", 9, ⟨"CodePointSets$CodeRow", "<init>", "()V"⟩, "CodePointSets"), ("CodePointSets", 22, ⟨"CodePointSets$MemberSet", "<init>", "()V"⟩, "CodePointSets"), ("CodePointSets$PatternReader", 11, ⟨"CodePointSets$TokenRow", "<init>", "()V"⟩, "CodePointSets"), ("CodePointSets$TokenRow", 11, ⟨"CodePointSets$CodeRow", "<init>", "()V"⟩, "CodePointSets"), ("CodePointSets$PatternReader", 26, ⟨"CodePointSets$MemberSet", "<init>", "()V"⟩, "CodePointSets"), ("CodePointSets$PatternReader", 37, ⟨"CodePointSets$OpenBracket", "<init>", "()V"⟩, "CodePointSets"), ("CodePointSets$OpenBracket", 11, ⟨"CodePointSets$MemberSet", "<init>", "()V"⟩, "CodePointSets"), ("CodePointSets", 32, ⟨"CodePointSets$PatternWriter", "<init>", "()V"⟩, "CodePointSets"), ("CodePointSets$PatternWriter", 11, ⟨"CodePointSets$CodeRow", "<init>", "()V"⟩, "CodePointSets"), ("CodePointSets$TokenRow", 88, ⟨"CodePointSets", "isCodePoint", "(I)Z"⟩, "CodePointSets")]
/-- the tables of ints: class, field, number -/
def wSF : List (String × String × Nat) := [("CodePointSets$NamedSets", "ANY", 0), ("CodePointSets$NamedSets", "ASCII", 1), ("CodePointSets$NamedSets", "DIGIT", 2), ("CodePointSets$NamedSets", "HEX_DIGIT", 3), ("CodePointSets$NamedSets", "UPPER", 4), ("CodePointSets$NamedSets", "LOWER", 5), ("CodePointSets$NamedSets", "LETTER", 6), ("CodePointSets$NamedSets", "GREEK", 7), ("CodePointSets$NamedSets", "SPACE", 8), ("CodePointSets$NamedSets", "SURROGATE", 9), ("CodePointSets$CaseRules", "CASED", 10), ("CodePointSets$CaseRules", "LARGE", 11), ("CodePointSets$CaseRules", "TRIPLES", 12)]
def wSS : List (String × Nat × String × Nat) := [("CodePointSets$NamedSets", 39, "any", 0), ("CodePointSets$NamedSets", 41, "ascii", 1), ("CodePointSets$NamedSets", 43, "digit", 2), ("CodePointSets$NamedSets", 45, "hexdigit", 3), ("CodePointSets$NamedSets", 47, "upper", 4), ("CodePointSets$NamedSets", 49, "lower", 5), ("CodePointSets$NamedSets", 51, "letter", 6), ("CodePointSets$NamedSets", 53, "greek", 7), ("CodePointSets$NamedSets", 55, "space", 8), ("CodePointSets$NamedSets", 57, "surrogate", 9)]
def wSN : Nat := 10
def wSl : List Nat := [3, 5, 5, 8, 5, 5, 6, 5, 5, 9]
def wSb : List (List Int32) := [[97, 110, 121], [97, 115, 99, 105, 105], [100, 105, 103, 105, 116], [104, 101, 120, 100, 105, 103, 105, 116], [117, 112, 112, 101, 114], [108, 111, 119, 101, 114], [108, 101, 116, 116, 101, 114], [103, 114, 101, 101, 107], [115, 112, 97, 99, 101], [115, 117, 114, 114, 111, 103, 97, 116, 101]]
def wAO : List String := ["CodePointSets$MemberSet", "CodePointSets$OpenBracket"]
