/-! the law's start: written by wip/gen/lw5.py -/
def gv : Cond := Jvm.Cond.and given_1 narrow_1
def stN (i : Nat) : String × String × Nat := wSF.getD i ("", "", 0)
def stm (i : Nat) : Term := .static (stN i).1 (stN i).2.1 "[I"
def snm (i : Nat) : Term := .string "CodePointSets$NamedSets" (39 + 2 * i)
theorem g_arr : ∀ i, i < 13 → Cond.arrayOf (stm i) .int ∈ flatC gv := by decide +kernel
theorem g_len : ∀ i, i < 13 → Cond.eq (.length (stm i)) (.int (Int32.ofNat (tabL.getD i []).length)) ∈ flatC gv := by decide +kernel
theorem g_el : ∀ i, i < 13 → ∀ j, j < (tabL.getD i []).length → Cond.eq (.elem (stm i) (.int (Int32.ofNat j))) (.int (nI ((tabL.getD i []).getD j 0))) ∈ flatC gv := by decide +kernel
theorem g_ls : ∀ i, i < 13 → Cond.laysStatic (stN i).1 (stN i).2.1 "[I" ∈ tables_1 := by decide +kernel
theorem g_in : ∀ i, i < 13 → Cond.initialized (stN i).1 ∈ tables_1 := by decide +kernel
theorem g_ex : ∀ i, i < 10 → Cond.exactly (snm i) "java/lang/String" ∈ flatC gv := by decide +kernel
theorem g_co : ∀ i, i < 10 → Cond.eq (.field (snm i) "java/lang/String" "coder" "B") (.int 0) ∈ flatC gv := by decide +kernel
theorem g_ar : ∀ i, i < 10 → Cond.arrayOf (.field (snm i) "java/lang/String" "value" "[B") .byte ∈ flatC gv := by decide +kernel
theorem g_le : ∀ i, i < 10 → Cond.eq (.length (.field (snm i) "java/lang/String" "value" "[B")) (.int (Int32.ofNat (wSl.getD i 0))) ∈ flatC gv := by decide +kernel
theorem g_se : ∀ i, i < 10 → ∀ j, j < wSl.getD i 0 → Cond.eq (.elem (.field (snm i) "java/lang/String" "value" "[B") (.int (Int32.ofNat j))) (.int ((wSb.getD i []).getD j 0)) ∈ flatC gv := by decide +kernel
theorem g_ne : ∀ j, j < 10 → ∀ i, i < j → Cond.not (Cond.eq (snm i) (snm j)) ∈ flatC gv := by decide +kernel
theorem g_sr : ∀ q ∈ wSS, Cond.stringRef q.1 q.2.1 q.2.2.1 ∈ tables_1 ∧ q.1 = "CodePointSets$NamedSets" ∧ q.2.1 = 39 + 2 * q.2.2.2 ∧ q.2.2.2 < 10 := by decide +kernel
theorem g_sf : ∀ q ∈ wSF, q.2.2 < 13 ∧ (stN q.2.2).1 = q.1 ∧ (stN q.2.2).2.1 = q.2.1 := by decide +kernel
theorem g_nf : ∀ q ∈ wNF, Cond.fieldLinkNest q.1 q.2.1 q.2.2.1 q.2.2.2.1 q.2.2.2.2.1 q.2.2.2.2.2 ∈ tables_1 := by decide +kernel
theorem g_nm : ∀ q ∈ wNM, Cond.methodLinkNest q.1 q.2.1 q.2.2.1 q.2.2.2 ∈ tables_1 := by decide +kernel
theorem g_ao : ∀ C ∈ wAO, Cond.arrayOver (.object C) ∈ tables_1 := by decide +kernel
theorem g_cs : Cond.eq (.static "java/lang/String" "COMPACT_STRINGS" "Z") (.int 1) ∈ flatC gv ∧ Cond.laysStatic "java/lang/String" "COMPACT_STRINGS" "Z" ∈ tables_1 ∧ Cond.initialized "java/lang/String" ∈ tables_1 := by decide +kernel
theorem g_fm : Cond.isRef (.static "jdk/internal/util/Preconditions" "SIOOBE_FORMATTER" "Ljava/util/function/BiFunction;") ∈ flatC gv ∧ Cond.laysStatic "jdk/internal/util/Preconditions" "SIOOBE_FORMATTER" "Ljava/util/function/BiFunction;" ∈ tables_1 ∧ Cond.initialized "jdk/internal/util/Preconditions" ∈ tables_1 := by decide +kernel
theorem tabL_sm : ∀ i, i < 13 → (tabL.getD i []).length < 2 ^ 31 := by decide
theorem wcl_i : ∀ (ci : Nat) (r : vw_C), wcl[ci]? = some r → Cond.instantiable r.1 r.2.2 ∈ wWL := by
  intro ci r h
  match ci, h with
  | 0, h =>
    obtain ⟨r2, e1, -, e3, -⟩ := n_CP_7
    cases h.symm.trans e1
    exact e3
  | 1, h =>
    obtain ⟨r2, e1, -, e3, -⟩ := n_CP_16
    cases h.symm.trans e1
    exact e3
  | 2, h =>
    obtain ⟨r2, e1, -, e3, -⟩ := n_PR_18
    cases h.symm.trans e1
    exact e3
  | 3, h =>
    obtain ⟨r2, e1, -, e3, -⟩ := n_CP_23
    cases h.symm.trans e1
    exact e3
  | 4, h =>
    obtain ⟨r2, e1, -, e3, -⟩ := n_CP_30
    cases h.symm.trans e1
    exact e3
  | 5, h =>
    obtain ⟨r2, e1, -, e3, -⟩ := n_PR_9
    cases h.symm.trans e1
    exact e3
  | 6, h =>
    obtain ⟨r2, e1, -, e3, -⟩ := n_LW_7
    cases h.symm.trans e1
    exact e3
  | 7, h =>
    obtain ⟨r2, e1, -, e3, -⟩ := n_LW_10
    cases h.symm.trans e1
    exact e3
  | n + 8, h => exact absurd h (by simp [wcl])

