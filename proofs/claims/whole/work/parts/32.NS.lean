/-! String constants and NamedSets: written by wip/gen/ns.py -/
/-! methods of PC: written by wip/gen/mknames.py -/
def M_PC_checkIndex : wM := (⟨"jdk/internal/util/Preconditions", "checkIndex", "(IILjava/util/function/BiFunction;)I"⟩, prog_16_method_11_code, 3, (some (.int)))
set_option maxRecDepth 100000 in
theorem yM_PC_checkIndex : wCy M_PC_checkIndex 3 := ⟨wIn 320 rfl (by decide +kernel), wIn 13 (by decide +kernel) (by decide +kernel), by decide +kernel, by decide +kernel, by decide +kernel, by decide +kernel⟩
theorem sM_PC_checkIndex : Cond.static M_PC_checkIndex.1 ∈ wWL := wIn 319 (by decide +kernel) (by decide +kernel)
theorem l_ST_1059 : wCl "java/lang/String" 1059 M_PC_checkIndex := Or.inl (wIn 318 (by decide +kernel) (by decide +kernel))
/-! decode rows of ST SL PC: written by wip/gen/mknames.py -/
theorem d_ST_length_0 : decode M_ST_length.2.1 0 = .ok (.aload_n 0, 1) := by decide +kernel
theorem d_ST_length_1 : decode M_ST_length.2.1 1 = .ok (.getfield 9, 3) := by decide +kernel
theorem d_ST_length_4 : decode M_ST_length.2.1 4 = .ok (.arraylength, 1) := by decide +kernel
theorem d_ST_length_5 : decode M_ST_length.2.1 5 = .ok (.aload_n 0, 1) := by decide +kernel
theorem d_ST_length_6 : decode M_ST_length.2.1 6 = .ok (.invokevirtual 335, 3) := by decide +kernel
theorem d_ST_length_9 : decode M_ST_length.2.1 9 = .ok (.ishr, 1) := by decide +kernel
theorem d_ST_length_10 : decode M_ST_length.2.1 10 = .ok (.ireturn, 1) := by decide +kernel
theorem d_ST_coder_0 : decode M_ST_coder.2.1 0 = .ok (.getstatic 38, 3) := by decide +kernel
theorem d_ST_coder_3 : decode M_ST_coder.2.1 3 = .ok (.ifCond .eq 10, 3) := by decide +kernel
theorem d_ST_coder_6 : decode M_ST_coder.2.1 6 = .ok (.aload_n 0, 1) := by decide +kernel
theorem d_ST_coder_7 : decode M_ST_coder.2.1 7 = .ok (.getfield 15, 3) := by decide +kernel
theorem d_ST_coder_10 : decode M_ST_coder.2.1 10 = .ok (.goto 4, 3) := by decide +kernel
theorem d_ST_coder_13 : decode M_ST_coder.2.1 13 = .ok (.iconst 1, 1) := by decide +kernel
theorem d_ST_coder_14 : decode M_ST_coder.2.1 14 = .ok (.ireturn, 1) := by decide +kernel
theorem d_ST_charAt_0 : decode M_ST_charAt.2.1 0 = .ok (.aload_n 0, 1) := by decide +kernel
theorem d_ST_charAt_1 : decode M_ST_charAt.2.1 1 = .ok (.invokevirtual 492, 3) := by decide +kernel
theorem d_ST_charAt_4 : decode M_ST_charAt.2.1 4 = .ok (.ifCond .eq 12, 3) := by decide +kernel
theorem d_ST_charAt_7 : decode M_ST_charAt.2.1 7 = .ok (.aload_n 0, 1) := by decide +kernel
theorem d_ST_charAt_8 : decode M_ST_charAt.2.1 8 = .ok (.getfield 9, 3) := by decide +kernel
theorem d_ST_charAt_11 : decode M_ST_charAt.2.1 11 = .ok (.iload_n 1, 1) := by decide +kernel
theorem d_ST_charAt_12 : decode M_ST_charAt.2.1 12 = .ok (.invokestatic 495, 3) := by decide +kernel
theorem d_ST_charAt_15 : decode M_ST_charAt.2.1 15 = .ok (.ireturn, 1) := by decide +kernel
theorem d_ST_charAt_16 : decode M_ST_charAt.2.1 16 = .ok (.aload_n 0, 1) := by decide +kernel
theorem d_ST_charAt_17 : decode M_ST_charAt.2.1 17 = .ok (.getfield 9, 3) := by decide +kernel
theorem d_ST_charAt_20 : decode M_ST_charAt.2.1 20 = .ok (.iload_n 1, 1) := by decide +kernel
theorem d_ST_charAt_21 : decode M_ST_charAt.2.1 21 = .ok (.invokestatic 498, 3) := by decide +kernel
theorem d_ST_charAt_24 : decode M_ST_charAt.2.1 24 = .ok (.ireturn, 1) := by decide +kernel
theorem d_ST_isLatin1_0 : decode M_ST_isLatin1.2.1 0 = .ok (.getstatic 38, 3) := by decide +kernel
theorem d_ST_isLatin1_3 : decode M_ST_isLatin1.2.1 3 = .ok (.ifCond .eq 14, 3) := by decide +kernel
theorem d_ST_isLatin1_6 : decode M_ST_isLatin1.2.1 6 = .ok (.aload_n 0, 1) := by decide +kernel
theorem d_ST_isLatin1_7 : decode M_ST_isLatin1.2.1 7 = .ok (.getfield 15, 3) := by decide +kernel
theorem d_ST_isLatin1_10 : decode M_ST_isLatin1.2.1 10 = .ok (.ifCond .ne 7, 3) := by decide +kernel
theorem d_ST_isLatin1_13 : decode M_ST_isLatin1.2.1 13 = .ok (.iconst 1, 1) := by decide +kernel
theorem d_ST_isLatin1_14 : decode M_ST_isLatin1.2.1 14 = .ok (.goto 4, 3) := by decide +kernel
theorem d_ST_isLatin1_17 : decode M_ST_isLatin1.2.1 17 = .ok (.iconst 0, 1) := by decide +kernel
theorem d_ST_isLatin1_18 : decode M_ST_isLatin1.2.1 18 = .ok (.ireturn, 1) := by decide +kernel
theorem d_SL_charAt_0 : decode M_SL_charAt.2.1 0 = .ok (.iload_n 1, 1) := by decide +kernel
theorem d_SL_charAt_1 : decode M_SL_charAt.2.1 1 = .ok (.aload_n 0, 1) := by decide +kernel
theorem d_SL_charAt_2 : decode M_SL_charAt.2.1 2 = .ok (.arraylength, 1) := by decide +kernel
theorem d_SL_charAt_3 : decode M_SL_charAt.2.1 3 = .ok (.invokestatic 9, 3) := by decide +kernel
theorem d_SL_charAt_6 : decode M_SL_charAt.2.1 6 = .ok (.aload_n 0, 1) := by decide +kernel
theorem d_SL_charAt_7 : decode M_SL_charAt.2.1 7 = .ok (.iload_n 1, 1) := by decide +kernel
theorem d_SL_charAt_8 : decode M_SL_charAt.2.1 8 = .ok (.baload, 1) := by decide +kernel
theorem d_SL_charAt_9 : decode M_SL_charAt.2.1 9 = .ok (.sipush 255, 3) := by decide +kernel
theorem d_SL_charAt_12 : decode M_SL_charAt.2.1 12 = .ok (.iand, 1) := by decide +kernel
theorem d_SL_charAt_13 : decode M_SL_charAt.2.1 13 = .ok (.i2c, 1) := by decide +kernel
theorem d_SL_charAt_14 : decode M_SL_charAt.2.1 14 = .ok (.ireturn, 1) := by decide +kernel
theorem d_ST_checkIndex_0 : decode M_ST_checkIndex.2.1 0 = .ok (.iload_n 0, 1) := by decide +kernel
theorem d_ST_checkIndex_1 : decode M_ST_checkIndex.2.1 1 = .ok (.iload_n 1, 1) := by decide +kernel
theorem d_ST_checkIndex_2 : decode M_ST_checkIndex.2.1 2 = .ok (.getstatic 1053, 3) := by decide +kernel
theorem d_ST_checkIndex_5 : decode M_ST_checkIndex.2.1 5 = .ok (.invokestatic 1059, 3) := by decide +kernel
theorem d_ST_checkIndex_8 : decode M_ST_checkIndex.2.1 8 = .ok (.pop, 1) := by decide +kernel
theorem d_ST_checkIndex_9 : decode M_ST_checkIndex.2.1 9 = .ok (.return_, 1) := by decide +kernel
theorem d_PC_checkIndex_0 : decode M_PC_checkIndex.2.1 0 = .ok (.iload_n 0, 1) := by decide +kernel
theorem d_PC_checkIndex_1 : decode M_PC_checkIndex.2.1 1 = .ok (.ifCond .lt 8, 3) := by decide +kernel
theorem d_PC_checkIndex_4 : decode M_PC_checkIndex.2.1 4 = .ok (.iload_n 0, 1) := by decide +kernel
theorem d_PC_checkIndex_5 : decode M_PC_checkIndex.2.1 5 = .ok (.iload_n 1, 1) := by decide +kernel
theorem d_PC_checkIndex_6 : decode M_PC_checkIndex.2.1 6 = .ok (.if_icmp .lt 10, 3) := by decide +kernel
theorem d_PC_checkIndex_9 : decode M_PC_checkIndex.2.1 9 = .ok (.aload_n 2, 1) := by decide +kernel
theorem d_PC_checkIndex_10 : decode M_PC_checkIndex.2.1 10 = .ok (.iload_n 0, 1) := by decide +kernel
theorem d_PC_checkIndex_11 : decode M_PC_checkIndex.2.1 11 = .ok (.iload_n 1, 1) := by decide +kernel
theorem d_PC_checkIndex_12 : decode M_PC_checkIndex.2.1 12 = .ok (.invokestatic 95, 3) := by decide +kernel
theorem d_PC_checkIndex_15 : decode M_PC_checkIndex.2.1 15 = .ok (.athrow, 1) := by decide +kernel
theorem d_PC_checkIndex_16 : decode M_PC_checkIndex.2.1 16 = .ok (.iload_n 0, 1) := by decide +kernel
theorem d_PC_checkIndex_17 : decode M_PC_checkIndex.2.1 17 = .ok (.ireturn, 1) := by decide +kernel

theorem ml_ST_335 : Cond.methodLink "java/lang/String" 335 M_ST_coder.1 ∈ wWL := wIn 296 (by decide +kernel) (by decide +kernel)
theorem ml_ST_492 : Cond.methodLink "java/lang/String" 492 M_ST_isLatin1.1 ∈ wWL := wIn 306 (by decide +kernel) (by decide +kernel)
theorem ml_NS_25 : Cond.methodLink "CodePointSets$NamedSets" 25 M_ST_length.1 ∈ wWL := wIn 292 (by decide +kernel) (by decide +kernel)
theorem ml_NS_35 : Cond.methodLink "CodePointSets$NamedSets" 35 M_ST_charAt.1 ∈ wWL := wIn 302 (by decide +kernel) (by decide +kernel)
theorem fv_ST : Cond.fieldLink "java/lang/String" 9 "java/lang/String" "value" "[B" ∈ wWL := wIn 949 (by decide +kernel) (by decide +kernel)
theorem fc_ST : Cond.fieldLink "java/lang/String" 15 "java/lang/String" "coder" "B" ∈ wWL := wIn 950 (by decide +kernel) (by decide +kernel)
theorem fs_ST : Cond.fieldLink "java/lang/String" 38 "java/lang/String" "COMPACT_STRINGS" "Z" ∈ wWL := wIn 300 (by decide +kernel) (by decide +kernel)
theorem fi_ST : Cond.fieldLink "java/lang/String" 1053 "jdk/internal/util/Preconditions" "SIOOBE_FORMATTER" "Ljava/util/function/BiFunction;" ∈ wWL := wIn 316 (by decide +kernel) (by decide +kernel)
section WS
variable {X : wX} {M : wM} {R : Room} {B : Nat} {E : wN} {nc u pc : Nat} {pl : List (Option Value)} {st : List Value} {h : wH}
theorem wG_S {p : Program} {s : State} {m : MethodId} {args : Array Value} {meth : Method} {c : Code} {n0 : Nat} (hG : wG X M R B p s m args meth c n0) : vk_S wSN wSl wSb (fun i => xa X (1100 + i)) (fun i => xa X (1200 + i)) (xA X) s s.heap := (wG_W hG).2.2.2.2.2.2.2.1
theorem w_sval {i : Nat} (hi : i < wSN) (hd : decode M.2.1 pc = .ok (.getfield 9, 3)) (hw : Cond.fieldLink M.1.cls 9 "java/lang/String" "value" "[B" ∈ wWL) (k : WP X M R B E nc u (pc + 3) pl (.ref (1200 + i) :: st) h) : WP X M R B E nc u pc pl (.ref (1100 + i) :: st) h := by
  intro p e s m args below meth c n0 H ls locs hG hn hl hP hS
  exact vk_getf (rest := st.map (wv X)) hG.1 hG.2.1 ((wG_S hG).1 i hi).2.2.1 hS (wG_own hG) (wG_ts hG _ hw) (fun _ z => z) hd (k p e s m args below meth c n0 H ls locs hG hn hl hP hS)
theorem w_scod {i : Nat} (hi : i < wSN) (hd : decode M.2.1 pc = .ok (.getfield 15, 3)) (hw : Cond.fieldLink M.1.cls 15 "java/lang/String" "coder" "B" ∈ wWL) (k : WP X M R B E nc u (pc + 3) pl (.int (nI 0) :: st) h) : WP X M R B E nc u pc pl (.ref (1100 + i) :: st) h := by
  intro p e s m args below meth c n0 H ls locs hG hn hl hP hS
  exact vk_getf (rest := st.map (wv X)) hG.1 hG.2.1 ((wG_S hG).1 i hi).2.1 hS (wG_own hG) (wG_ts hG _ hw) (fun _ z => z) hd (k p e s m args below meth c n0 H ls locs hG hn hl hP hS)
theorem w_sblen {i : Nat} (hi : i < wSN) (hd : decode M.2.1 pc = .ok (.arraylength, 1)) (k : WP X M R B E nc u (pc + 1) pl (.int (nI (wSl.getD i 0)) :: st) h) : WP X M R B E nc u pc pl (.ref (1200 + i) :: st) h := by
  intro p e s m args below meth c n0 H ls locs hG hn hl hP hS
  exact va_tlen (rest := st.map (wv X)) hG.1 hG.2.1 ((wG_S hG).1 i hi).2.2.2 hS rfl hd (k p e s m args below meth c n0 H ls locs hG hn hl hP hS)
theorem w_sbald {i : Nat} {j : Int32} (hi : i < wSN) (hd : decode M.2.1 pc = .ok (.baload, 1)) (hj : vp_in j (wSl.getD i 0)) (k : WP X M R B E nc u (pc + 1) pl (.int ((wSb.getD i []).getD j.toNatClampNeg 0) :: st) h) : WP X M R B E nc u pc pl (.int j :: .ref (1200 + i) :: st) h := by
  intro p e s m args below meth c n0 H ls locs hG hn hl hP hS
  exact va_tb (rest := st.map (wv X)) hG.1 hG.2.1 ((wG_S hG).1 i hi).2.2.2 hS hj rfl hd (k p e s m args below meth c n0 H ls locs hG hn hl hP hS)
theorem w_compact (hd : decode M.2.1 pc = .ok (.getstatic 38, 3)) (hw : Cond.fieldLink M.1.cls 38 "java/lang/String" "COMPACT_STRINGS" "Z" ∈ wWL) (k : WP X M R B E nc u (pc + 3) pl (.int (nI 1) :: st) h) : WP X M R B E nc u pc pl st h := by
  intro p e s m args below meth c n0 H ls locs hG hn hl hP hS
  exact va_gets (rest := st.map (wv X)) hG.1 hG.2.1 (wG_W hG).2.2.2.2.2.2.2.2.2.1 hS (wG_own hG) (wG_ts hG _ hw) (fun _ z => z) hd (k p e s m args below meth c n0 H ls locs hG hn hl hP hS)
theorem w_sioobe (hd : decode M.2.1 pc = .ok (.getstatic 1053, 3)) (hw : Cond.fieldLink M.1.cls 1053 "jdk/internal/util/Preconditions" "SIOOBE_FORMATTER" "Ljava/util/function/BiFunction;" ∈ wWL) (k : ∀ v, wref v = true → WP X M R B E nc u (pc + 3) pl (v :: st) h) : WP X M R B E nc u pc pl st h := by
  intro p e s m args below meth c n0 H ls locs hG hn hl hP hS
  rcases (wG_W hG).2.2.2.2.2.2.2.2.2.2 with hz | hz
  · exact va_gets (rest := st.map (wv X)) hG.1 hG.2.1 hz hS (wG_own hG) (wG_ts hG _ hw) (fun _ z => z) hd (k (.ref 1300) rfl p e s m args below meth c n0 H ls locs hG hn hl hP hS)
  · exact va_gets (rest := st.map (wv X)) hG.1 hG.2.1 hz hS (wG_own hG) (wG_ts hG _ hw) (fun _ z => z) hd (k .null rfl p e s m args below meth c n0 H ls locs hG hn hl hP hS)
theorem w_xret {v : Int32} {ty : FieldType} {Q : Option Value → wH → Prop} (hd : decode M.2.1 pc = .ok (.ireturn, 1)) (hr : M.2.2.2 = some ty) (hb : narrow ty (.int v) = .int v) (hq : Q (some (.int v)) h) : WP X M R B (wEm X nc R.slots Q) nc u pc pl [.int v] h := by
  intro p e s m args below meth c n0 H ls locs hG hn hl hP hS
  exact W.widen (Nat.le_refl _) hn.2.2 (W.zret (v := v) (ty := ty) hG.1 hG.2.1 (hG.2.2.1.trans hr) hb (fun t ht hW => ⟨⟨some (.int v), h, rfl, hq, hn.1, by rw [ht]; exact hP⟩, hS.F ht⟩) hS.2.2 hd hG.2.2.2.1)
/-- a call on a literal -/
theorem w_callVS {i idx n d' : Nat} {M' : wM} {as stk : List Value} {Q : Option Value → wH → Prop} (hi : i < wSN) (hd : decode M.2.1 pc = .ok (.invokevirtual idx, 3)) (hy : wCy M' n) (hlk : Cond.methodLink M.1.cls idx M'.1 ∈ wWL) (hv0 : wCv M') (hcn : M'.1.cls = "java/lang/String") (hst : stk = as.reverse ++ .ref (1100 + i) :: st) (hal : as.length = n) (hM : PM X M' d' 0 0 (.ref (1100 + i) :: as) h Q) (hdd : d' + 1 ≤ R.frames) (hll : 40 * d' + 40 ≤ R.locals) (hcat : (st.map fun v => v.category).sum ≤ 8)
    (k : ∀ r h', Q r h' → WP X M R B E nc u (pc + 3) pl (r.toList ++ st) h') : WP X M R B E nc u pc pl stk h := by
  subst hst
  intro p e s m args below meth c n0 H ls locs hG hn hl hP hS
  refine wW_size (fun hle => ?_)
  obtain ⟨y1, y2, y3, y4, y5, y6⟩ := hy
  have hpre := w_pre (as := .ref (1100 + i) :: as) (mc' := 0) hG hn hP hS hn.2.1 hle
  obtain ⟨g1, g2, g3⟩ := wG_size hG
  have hstk : ((as.reverse ++ .ref (1100 + i) :: st).map (wv X)) = (as.map (wv X)).reverse ++ .ref (xa X (1100 + i)) :: st.map (wv X) := by simp [wv]
  have hrec : ∃ cell : Cell, H[xa X (1100 + i)]? = some cell ∧ cell.vm.isStatics = false ∧ s.vm.findClass M'.1.cls = some cell.cls := by
    rw [hcn]
    exact vk_recv (i := i) (adK := fun i => xa X (1100 + i)) (wG_S hG) hi hS
  have hrun : va_Run p (xl X) e R s m args below meth c H locs nc u 0 0 (F0 m pc ls ((as.reverse ++ .ref (1100 + i) :: st).map (wv X))) (st.map (wv X)) (wQc X (h.length + 0) Q (Value.ref (xa X (1100 + i)) :: as.map (wv X)).toArray) (xA X) := by
    have hR : (wR d' 0 0).frames + 1 ≤ R.frames ∧ 8 + (M'.2.2.1 + 11) + (wR d' 0 0).locals ≤ R.locals := ⟨hdd, by show 8 + (M'.2.2.1 + 11) + 40 * d' ≤ R.locals; omega⟩
    have hroom : 2 * (F0 m pc ls ((as.reverse ++ .ref (1100 + i) :: st).map (wv X))).monitorRoom + ((st.map (wv X)).map fun v => v.category).sum ≤ 8 := lv_room (by rw [w_cats]; exact hcat)
    exact va_runV (C := M'.1.cls) (bytes := M'.2.1) (maxL := M'.2.2.1) (ret := M'.2.2.2) (n := n) (cc := M.2.1) (nL := M.2.2.1) (Ts := wWL) (own := M.1.cls) ⟨hG.1, hG.2.1, hG.2.2.2.2.1, wG_own hG, wG_ts hG⟩ hM ⟨callB_of n (wG_ts hG) (wWL_good M' y1) rfl rfl rfl (wG_ts hG _ y2) (wG_ts hG _ hlk) ⟨y3, y4, y5⟩ hR, wG_ts hG _ hv0.1, wG_ts hG _ hv0.2⟩ ⟨wPc_blind _ _ _ _, hrec, hpre⟩ rfl (by rw [List.length_map]; exact hal) hl.1 hstk hroom hd ⟨by omega, hn.2.2⟩
  exact w_after hrun hS (fun r h' H1 locs1 hq hl' hP' hS' => k r h' hq p e s m args below meth c n0 H1 ls locs1 hG ⟨by omega, hn.2.1, hn.2.2⟩ hl hP' hS')
end WS
/-- the names, as numbers -/
def nmL : List (List Nat) := [[97, 110, 121], [97, 115, 99, 105, 105], [100, 105, 103, 105, 116], [104, 101, 120, 100, 105, 103, 105, 116], [117, 112, 112, 101, 114], [108, 111, 119, 101, 114], [108, 101, 116, 116, 101, 114], [103, 114, 101, 101, 107], [115, 112, 97, 99, 101], [115, 117, 114, 114, 111, 103, 97, 116, 101]]
theorem nmL_len : ∀ i, i < 10 → wSl.getD i 0 = (nmL.getD i []).length ∧ (nmL.getD i []).length ≤ 9 := by decide
theorem nmL_ch : ∀ i, i < 10 → ∀ j, j < (nmL.getD i []).length → (((wSb.getD i []).getD j 0 &&& nI 255).toUInt32 % 65536).toInt32 = nI ((nmL.getD i []).getD j 0) ∧ narrow .char (.int (nI ((nmL.getD i []).getD j 0))) = .int (nI ((nmL.getD i []).getD j 0)) := by decide +kernel
theorem nmL_b : ∀ i, i < 10 → ∀ x ∈ nmL.getD i [], x < 128 := by decide
/-- the number of a name -/
def nmN (l : List Nat) : Int32 := if l = nmL.getD 0 [] then nI 0 else if l = nmL.getD 1 [] then nI 1 else if l = nmL.getD 2 [] then nI 2 else if l = nmL.getD 3 [] then nI 3 else if l = nmL.getD 4 [] then nI 4 else if l = nmL.getD 5 [] then nI 5 else if l = nmL.getD 6 [] then nI 6 else if l = nmL.getD 7 [] then nI 7 else if l = nmL.getD 8 [] then nI 8 else if l = nmL.getD 9 [] then nI 9 else -1
section NS
variable {X : wX}
set_option maxHeartbeats 4000000 in
set_option maxRecDepth 100000 in
theorem m_ST_coder {h : wH} {i : Nat} (hi : i < wSN) : PM X M_ST_coder 0 0 0 [.ref (1100 + i)] h (fun r h' => r = some (.int (nI 0)) ∧ h' = h) := by
  refine PM.at (pl := [some (.ref (1100 + i))]) rfl rfl (by simp [wle, wen]) ?_
  generalize hEN : wEm X 0 0 _ = EN
  refine w_compact d_ST_coder_0 fs_ST ?_
  refine w_if_eq (tgt := 13) d_ST_coder_3 rfl (fun z => absurd z (by decide)) (fun _ => ?_)
  refine w_aload_n d_ST_coder_6 rfl rfl ?_
  refine w_scod hi d_ST_coder_7 fc_ST ?_
  refine w_goto (tgt := 14) d_ST_coder_10 rfl ?_
  rw [← hEN]
  refine w_xret (ty := .byte) d_ST_coder_14 rfl (by decide +kernel) ?_
  exact ⟨rfl, rfl⟩
set_option maxHeartbeats 4000000 in
set_option maxRecDepth 100000 in
theorem m_ST_isLatin1 {h : wH} {i : Nat} (hi : i < wSN) : PM X M_ST_isLatin1 0 0 0 [.ref (1100 + i)] h (fun r h' => r = some (.int (nI 1)) ∧ h' = h) := by
  refine PM.at (pl := [some (.ref (1100 + i))]) rfl rfl (by simp [wle, wen]) ?_
  generalize hEN : wEm X 0 0 _ = EN
  refine w_compact d_ST_isLatin1_0 fs_ST ?_
  refine w_if_eq (tgt := 17) d_ST_isLatin1_3 rfl (fun z => absurd z (by decide)) (fun _ => ?_)
  refine w_aload_n d_ST_isLatin1_6 rfl rfl ?_
  refine w_scod hi d_ST_isLatin1_7 fc_ST ?_
  refine w_if_ne (tgt := 17) d_ST_isLatin1_10 rfl (fun z => absurd (by decide) z) (fun _ => ?_)
  refine w_iconst (v := nI 1) d_ST_isLatin1_13 (by decide) ?_
  refine w_goto (tgt := 18) d_ST_isLatin1_14 rfl ?_
  rw [← hEN]
  refine w_zret d_ST_isLatin1_18 rfl (by first | exact Or.inl rfl | exact Or.inr rfl) ?_
  exact ⟨rfl, rfl⟩
set_option maxHeartbeats 4000000 in
set_option maxRecDepth 100000 in
theorem m_ST_length {h : wH} {i : Nat} (hi : i < wSN) : PM X M_ST_length 1 0 0 [.ref (1100 + i)] h (fun r h' => r = some (.int (nI (wSl.getD i 0))) ∧ h' = h) := by
  have hb9 : wSl.getD i 0 < 2 ^ 31 := by have := nmL_len i hi; omega
  refine PM.at (pl := [some (.ref (1100 + i))]) rfl rfl (by simp [wle, wen]) ?_
  generalize hEN : wEm X 0 0 _ = EN
  refine w_aload_n d_ST_length_0 rfl rfl ?_
  refine w_sval hi d_ST_length_1 fv_ST ?_
  refine w_sblen hi d_ST_length_4 ?_
  refine w_aload_n d_ST_length_5 rfl rfl ?_
  refine w_callVS (i := i) (as := []) (st := [.int (nI (wSl.getD i 0))]) hi d_ST_length_6 yM_ST_coder (ml_ST_335) vM_ST_coder rfl rfl rfl (m_ST_coder hi) (by decide) (by decide) (Nat.le_of_ble_eq_true rfl) ?_
  rintro _ h9_1 ⟨rfl, e9_1⟩
  rw [e9_1]
  refine w_eq (st' := [.int (nI 0), .int (nI (wSl.getD i 0))]) rfl ?_
  refine w_ishr d_ST_length_9 ?_
  refine w_topi (y := nI (wSl.getD i 0)) (sc_shr0 (n := wSl.getD i 0) hb9) ?_
  rw [← hEN]
  refine w_iret d_ST_length_10 rfl ?_
  exact ⟨rfl, rfl⟩
set_option maxHeartbeats 4000000 in
set_option maxRecDepth 100000 in
theorem m_PC_checkIndex {h : wH} {a b : Nat} {v : Value} (hv : wref v = true) (ha : a < b) (hb : b < 2 ^ 31) : PM X M_PC_checkIndex 0 0 0 [.int (nI a), .int (nI b), v] h (fun r h' => r = some (.int (nI a)) ∧ h' = h) := by
  refine PM.at (pl := [some (.int (nI a)), some (.int (nI b)), none]) rfl (by rcases wref_or hv with rfl | ⟨q, rfl⟩ <;> rfl) (by rcases wref_or hv with rfl | ⟨q, rfl⟩ <;> simp [wle, wen]) ?_
  generalize hEN : wEm X 0 0 _ = EN
  refine w_iload_n d_PC_checkIndex_0 rfl ?_
  refine w_if_lt (tgt := 9) d_PC_checkIndex_1 rfl (fun z => absurd z (nI_pos (by omega))) (fun _ => ?_)
  refine w_iload_n d_PC_checkIndex_4 rfl ?_
  refine w_iload_n d_PC_checkIndex_5 rfl ?_
  refine w_icmp_lt (tgt := 16) d_PC_checkIndex_6 rfl (fun _ => ?_) (fun z => absurd (nI_lt ha hb) z)
  refine w_iload_n d_PC_checkIndex_16 rfl ?_
  rw [← hEN]
  refine w_iret d_PC_checkIndex_17 rfl ?_
  exact ⟨rfl, rfl⟩
set_option maxHeartbeats 4000000 in
set_option maxRecDepth 100000 in
theorem m_ST_checkIndex {h : wH} {a b : Nat} (ha : a < b) (hb : b < 2 ^ 31) : PM X M_ST_checkIndex 1 0 0 [.int (nI a), .int (nI b)] h (fun r h' => r = none ∧ h' = h) := by
  refine PM.at (pl := [some (.int (nI a)), some (.int (nI b))]) rfl rfl (by simp [wle, wen]) ?_
  generalize hEN : wEm X 0 0 _ = EN
  refine w_iload_n d_ST_checkIndex_0 rfl ?_
  refine w_iload_n d_ST_checkIndex_1 rfl ?_
  refine w_sioobe d_ST_checkIndex_2 fi_ST (fun v hv => ?_)
  refine w_callS (as := [.int (nI a), .int (nI b), v]) (st := []) d_ST_checkIndex_5 yM_PC_checkIndex l_ST_1059 sM_PC_checkIndex rfl rfl (m_PC_checkIndex hv ha hb) (by decide) (by decide) (by decide) (by decide) (Nat.le_of_ble_eq_true rfl) ?_
  rintro _ h9_1 ⟨rfl, e9_1⟩
  rw [e9_1]
  refine w_eq (st' := [.int (nI a)]) rfl ?_
  refine w_pop d_ST_checkIndex_8 rfl ?_
  rw [← hEN]
  refine w_vret d_ST_checkIndex_9 rfl ?_
  exact ⟨rfl, rfl⟩
set_option maxHeartbeats 4000000 in
set_option maxRecDepth 100000 in
theorem m_SL_charAt {h : wH} {i : Nat} (hi : i < wSN) {j : Nat} (hj : j < (nmL.getD i []).length) : PM X M_SL_charAt 2 0 0 [.ref (1200 + i), .int (nI j)] h (fun r h' => r = some (.int (nI ((nmL.getD i []).getD j 0))) ∧ h' = h) := by
  obtain ⟨q1, q2⟩ := nmL_len i hi
  obtain ⟨q3, q4⟩ := nmL_ch i hi j hj
  refine PM.at (pl := [some (.ref (1200 + i)), some (.int (nI j))]) rfl rfl (by simp [wle, wen]) ?_
  generalize hEN : wEm X 0 0 _ = EN
  refine w_iload_n d_SL_charAt_0 rfl ?_
  refine w_aload_n d_SL_charAt_1 rfl rfl ?_
  refine w_sblen hi d_SL_charAt_2 ?_
  refine w_callS (as := [.int (nI j), .int (nI (wSl.getD i 0))]) (st := []) d_SL_charAt_3 yM_ST_checkIndex l_SL_9 sM_ST_checkIndex rfl rfl (m_ST_checkIndex (by omega) (by omega)) (by decide) (by decide) (by decide) (by decide) (Nat.le_of_ble_eq_true rfl) ?_
  rintro _ h9_1 ⟨rfl, e9_1⟩
  rw [e9_1]
  refine w_eq (st' := []) rfl ?_
  refine w_aload_n d_SL_charAt_6 rfl rfl ?_
  refine w_iload_n d_SL_charAt_7 rfl ?_
  refine w_sbald hi d_SL_charAt_8 (vp_in_nI (by omega) (by omega)) ?_
  refine w_topi (y := (wSb.getD i []).getD j 0) (by rw [nI_clamp (by omega)]) ?_
  refine w_sipush (v := nI 255) d_SL_charAt_9 (by decide) ?_
  refine w_iand d_SL_charAt_12 ?_
  refine w_i2c d_SL_charAt_13 ?_
  refine w_topi (y := nI ((nmL.getD i []).getD j 0)) q3 ?_
  rw [← hEN]
  refine w_xret (ty := .char) d_SL_charAt_14 rfl q4 ?_
  exact ⟨rfl, rfl⟩
set_option maxHeartbeats 4000000 in
set_option maxRecDepth 100000 in
theorem m_ST_charAt {h : wH} {i : Nat} (hi : i < wSN) {j : Nat} (hj : j < (nmL.getD i []).length) : PM X M_ST_charAt 3 0 0 [.ref (1100 + i), .int (nI j)] h (fun r h' => r = some (.int (nI ((nmL.getD i []).getD j 0))) ∧ h' = h) := by
  obtain ⟨q3, q4⟩ := nmL_ch i hi j hj
  refine PM.at (pl := [some (.ref (1100 + i)), some (.int (nI j))]) rfl rfl (by simp [wle, wen]) ?_
  generalize hEN : wEm X 0 0 _ = EN
  refine w_aload_n d_ST_charAt_0 rfl rfl ?_
  refine w_callVS (i := i) (as := []) (st := []) hi d_ST_charAt_1 yM_ST_isLatin1 (ml_ST_492) vM_ST_isLatin1 rfl rfl rfl (m_ST_isLatin1 hi) (by decide) (by decide) (Nat.le_of_ble_eq_true rfl) ?_
  rintro _ h9_1 ⟨rfl, e9_1⟩
  rw [e9_1]
  refine w_eq (st' := [.int (nI 1)]) rfl ?_
  refine w_if_eq (tgt := 16) d_ST_charAt_4 rfl (fun z => absurd z (by decide)) (fun _ => ?_)
  refine w_aload_n d_ST_charAt_7 rfl rfl ?_
  refine w_sval hi d_ST_charAt_8 fv_ST ?_
  refine w_iload_n d_ST_charAt_11 rfl ?_
  refine w_callS (as := [.ref (1200 + i), .int (nI j)]) (st := []) d_ST_charAt_12 yM_SL_charAt l_ST_495 sM_SL_charAt rfl rfl (m_SL_charAt hi hj) (by decide) (by decide) (by decide) (by decide) (Nat.le_of_ble_eq_true rfl) ?_
  rintro _ h9_2 ⟨rfl, e9_2⟩
  rw [e9_2]
  refine w_eq (st' := [.int (nI ((nmL.getD i []).getD j 0))]) rfl ?_
  rw [← hEN]
  refine w_xret (ty := .char) d_ST_charAt_15 rfl q4 ?_
  exact ⟨rfl, rfl⟩
set_option maxHeartbeats 4000000 in
set_option maxRecDepth 100000 in
theorem m_NS_nameOf_0 {h : wH} : PM X M_NS_nameOf 0 0 0 [.int (nI 0)] h (fun r h' => r = some (.ref (1100 + 0)) ∧ h' = h) := by
  refine PM.at (pl := [some (.int (nI 0))]) rfl rfl (by simp [wle, wen]) ?_
  generalize hEN : wEm X 0 0 _ = EN
  refine w_iload_n d_NS_nameOf_0 rfl ?_
  refine w_tableIn (off := 51) (tgt := 52) d_NS_nameOf_1 (by decide) (by decide) (by decide) (by decide) ?_
  refine w_ldcS (i := 0) (tx := "any") d_NS_nameOf_52 (by decide +kernel) ?_
  rw [← hEN]
  refine w_aret d_NS_nameOf_54 rfl (Or.inl ⟨_, rfl⟩) rfl ?_
  exact ⟨rfl, rfl⟩
set_option maxHeartbeats 4000000 in
set_option maxRecDepth 100000 in
theorem m_NS_edgesOf_0 {h : wH} : PM X M_NS_edgesOf 0 0 0 [.int (nI 0)] h (fun r h' => r = some (.ref (1000 + 0)) ∧ h' = h) := by
  refine PM.at (pl := [some (.int (nI 0))]) rfl rfl (by simp [wle, wen]) ?_
  generalize hEN : wEm X 0 0 _ = EN
  refine w_iload_n d_NS_edgesOf_0 rfl ?_
  refine w_tableIn (off := 51) (tgt := 52) d_NS_edgesOf_1 (by decide) (by decide) (by decide) (by decide) ?_
  refine w_gets (i := 0) d_NS_edgesOf_52 (by decide +kernel) g_NS_59 ?_
  rw [← hEN]
  refine w_aret d_NS_edgesOf_55 rfl (Or.inr ⟨_, rfl⟩) rfl ?_
  exact ⟨rfl, rfl⟩
set_option maxHeartbeats 4000000 in
set_option maxRecDepth 100000 in
theorem m_NS_nameOf_1 {h : wH} : PM X M_NS_nameOf 0 0 0 [.int (nI 1)] h (fun r h' => r = some (.ref (1100 + 1)) ∧ h' = h) := by
  refine PM.at (pl := [some (.int (nI 1))]) rfl rfl (by simp [wle, wen]) ?_
  generalize hEN : wEm X 0 0 _ = EN
  refine w_iload_n d_NS_nameOf_0 rfl ?_
  refine w_tableIn (off := 54) (tgt := 55) d_NS_nameOf_1 (by decide) (by decide) (by decide) (by decide) ?_
  refine w_ldcS (i := 1) (tx := "ascii") d_NS_nameOf_55 (by decide +kernel) ?_
  rw [← hEN]
  refine w_aret d_NS_nameOf_57 rfl (Or.inl ⟨_, rfl⟩) rfl ?_
  exact ⟨rfl, rfl⟩
set_option maxHeartbeats 4000000 in
set_option maxRecDepth 100000 in
theorem m_NS_edgesOf_1 {h : wH} : PM X M_NS_edgesOf 0 0 0 [.int (nI 1)] h (fun r h' => r = some (.ref (1000 + 1)) ∧ h' = h) := by
  refine PM.at (pl := [some (.int (nI 1))]) rfl rfl (by simp [wle, wen]) ?_
  generalize hEN : wEm X 0 0 _ = EN
  refine w_iload_n d_NS_edgesOf_0 rfl ?_
  refine w_tableIn (off := 55) (tgt := 56) d_NS_edgesOf_1 (by decide) (by decide) (by decide) (by decide) ?_
  refine w_gets (i := 1) d_NS_edgesOf_56 (by decide +kernel) g_NS_62 ?_
  rw [← hEN]
  refine w_aret d_NS_edgesOf_59 rfl (Or.inr ⟨_, rfl⟩) rfl ?_
  exact ⟨rfl, rfl⟩
set_option maxHeartbeats 4000000 in
set_option maxRecDepth 100000 in
theorem m_NS_nameOf_2 {h : wH} : PM X M_NS_nameOf 0 0 0 [.int (nI 2)] h (fun r h' => r = some (.ref (1100 + 2)) ∧ h' = h) := by
  refine PM.at (pl := [some (.int (nI 2))]) rfl rfl (by simp [wle, wen]) ?_
  generalize hEN : wEm X 0 0 _ = EN
  refine w_iload_n d_NS_nameOf_0 rfl ?_
  refine w_tableIn (off := 57) (tgt := 58) d_NS_nameOf_1 (by decide) (by decide) (by decide) (by decide) ?_
  refine w_ldcS (i := 2) (tx := "digit") d_NS_nameOf_58 (by decide +kernel) ?_
  rw [← hEN]
  refine w_aret d_NS_nameOf_60 rfl (Or.inl ⟨_, rfl⟩) rfl ?_
  exact ⟨rfl, rfl⟩
set_option maxHeartbeats 4000000 in
set_option maxRecDepth 100000 in
theorem m_NS_edgesOf_2 {h : wH} : PM X M_NS_edgesOf 0 0 0 [.int (nI 2)] h (fun r h' => r = some (.ref (1000 + 2)) ∧ h' = h) := by
  refine PM.at (pl := [some (.int (nI 2))]) rfl rfl (by simp [wle, wen]) ?_
  generalize hEN : wEm X 0 0 _ = EN
  refine w_iload_n d_NS_edgesOf_0 rfl ?_
  refine w_tableIn (off := 59) (tgt := 60) d_NS_edgesOf_1 (by decide) (by decide) (by decide) (by decide) ?_
  refine w_gets (i := 2) d_NS_edgesOf_60 (by decide +kernel) g_NS_65 ?_
  rw [← hEN]
  refine w_aret d_NS_edgesOf_63 rfl (Or.inr ⟨_, rfl⟩) rfl ?_
  exact ⟨rfl, rfl⟩
set_option maxHeartbeats 4000000 in
set_option maxRecDepth 100000 in
theorem m_NS_nameOf_3 {h : wH} : PM X M_NS_nameOf 0 0 0 [.int (nI 3)] h (fun r h' => r = some (.ref (1100 + 3)) ∧ h' = h) := by
  refine PM.at (pl := [some (.int (nI 3))]) rfl rfl (by simp [wle, wen]) ?_
  generalize hEN : wEm X 0 0 _ = EN
  refine w_iload_n d_NS_nameOf_0 rfl ?_
  refine w_tableIn (off := 60) (tgt := 61) d_NS_nameOf_1 (by decide) (by decide) (by decide) (by decide) ?_
  refine w_ldcS (i := 3) (tx := "hexdigit") d_NS_nameOf_61 (by decide +kernel) ?_
  rw [← hEN]
  refine w_aret d_NS_nameOf_63 rfl (Or.inl ⟨_, rfl⟩) rfl ?_
  exact ⟨rfl, rfl⟩
set_option maxHeartbeats 4000000 in
set_option maxRecDepth 100000 in
theorem m_NS_edgesOf_3 {h : wH} : PM X M_NS_edgesOf 0 0 0 [.int (nI 3)] h (fun r h' => r = some (.ref (1000 + 3)) ∧ h' = h) := by
  refine PM.at (pl := [some (.int (nI 3))]) rfl rfl (by simp [wle, wen]) ?_
  generalize hEN : wEm X 0 0 _ = EN
  refine w_iload_n d_NS_edgesOf_0 rfl ?_
  refine w_tableIn (off := 63) (tgt := 64) d_NS_edgesOf_1 (by decide) (by decide) (by decide) (by decide) ?_
  refine w_gets (i := 3) d_NS_edgesOf_64 (by decide +kernel) g_NS_68 ?_
  rw [← hEN]
  refine w_aret d_NS_edgesOf_67 rfl (Or.inr ⟨_, rfl⟩) rfl ?_
  exact ⟨rfl, rfl⟩
set_option maxHeartbeats 4000000 in
set_option maxRecDepth 100000 in
theorem m_NS_nameOf_4 {h : wH} : PM X M_NS_nameOf 0 0 0 [.int (nI 4)] h (fun r h' => r = some (.ref (1100 + 4)) ∧ h' = h) := by
  refine PM.at (pl := [some (.int (nI 4))]) rfl rfl (by simp [wle, wen]) ?_
  generalize hEN : wEm X 0 0 _ = EN
  refine w_iload_n d_NS_nameOf_0 rfl ?_
  refine w_tableIn (off := 63) (tgt := 64) d_NS_nameOf_1 (by decide) (by decide) (by decide) (by decide) ?_
  refine w_ldcS (i := 4) (tx := "upper") d_NS_nameOf_64 (by decide +kernel) ?_
  rw [← hEN]
  refine w_aret d_NS_nameOf_66 rfl (Or.inl ⟨_, rfl⟩) rfl ?_
  exact ⟨rfl, rfl⟩
set_option maxHeartbeats 4000000 in
set_option maxRecDepth 100000 in
theorem m_NS_edgesOf_4 {h : wH} : PM X M_NS_edgesOf 0 0 0 [.int (nI 4)] h (fun r h' => r = some (.ref (1000 + 4)) ∧ h' = h) := by
  refine PM.at (pl := [some (.int (nI 4))]) rfl rfl (by simp [wle, wen]) ?_
  generalize hEN : wEm X 0 0 _ = EN
  refine w_iload_n d_NS_edgesOf_0 rfl ?_
  refine w_tableIn (off := 67) (tgt := 68) d_NS_edgesOf_1 (by decide) (by decide) (by decide) (by decide) ?_
  refine w_gets (i := 4) d_NS_edgesOf_68 (by decide +kernel) g_NS_71 ?_
  rw [← hEN]
  refine w_aret d_NS_edgesOf_71 rfl (Or.inr ⟨_, rfl⟩) rfl ?_
  exact ⟨rfl, rfl⟩
set_option maxHeartbeats 4000000 in
set_option maxRecDepth 100000 in
theorem m_NS_nameOf_5 {h : wH} : PM X M_NS_nameOf 0 0 0 [.int (nI 5)] h (fun r h' => r = some (.ref (1100 + 5)) ∧ h' = h) := by
  refine PM.at (pl := [some (.int (nI 5))]) rfl rfl (by simp [wle, wen]) ?_
  generalize hEN : wEm X 0 0 _ = EN
  refine w_iload_n d_NS_nameOf_0 rfl ?_
  refine w_tableIn (off := 66) (tgt := 67) d_NS_nameOf_1 (by decide) (by decide) (by decide) (by decide) ?_
  refine w_ldcS (i := 5) (tx := "lower") d_NS_nameOf_67 (by decide +kernel) ?_
  rw [← hEN]
  refine w_aret d_NS_nameOf_69 rfl (Or.inl ⟨_, rfl⟩) rfl ?_
  exact ⟨rfl, rfl⟩
set_option maxHeartbeats 4000000 in
set_option maxRecDepth 100000 in
theorem m_NS_edgesOf_5 {h : wH} : PM X M_NS_edgesOf 0 0 0 [.int (nI 5)] h (fun r h' => r = some (.ref (1000 + 5)) ∧ h' = h) := by
  refine PM.at (pl := [some (.int (nI 5))]) rfl rfl (by simp [wle, wen]) ?_
  generalize hEN : wEm X 0 0 _ = EN
  refine w_iload_n d_NS_edgesOf_0 rfl ?_
  refine w_tableIn (off := 71) (tgt := 72) d_NS_edgesOf_1 (by decide) (by decide) (by decide) (by decide) ?_
  refine w_gets (i := 5) d_NS_edgesOf_72 (by decide +kernel) g_NS_74 ?_
  rw [← hEN]
  refine w_aret d_NS_edgesOf_75 rfl (Or.inr ⟨_, rfl⟩) rfl ?_
  exact ⟨rfl, rfl⟩
set_option maxHeartbeats 4000000 in
set_option maxRecDepth 100000 in
theorem m_NS_nameOf_6 {h : wH} : PM X M_NS_nameOf 0 0 0 [.int (nI 6)] h (fun r h' => r = some (.ref (1100 + 6)) ∧ h' = h) := by
  refine PM.at (pl := [some (.int (nI 6))]) rfl rfl (by simp [wle, wen]) ?_
  generalize hEN : wEm X 0 0 _ = EN
  refine w_iload_n d_NS_nameOf_0 rfl ?_
  refine w_tableIn (off := 69) (tgt := 70) d_NS_nameOf_1 (by decide) (by decide) (by decide) (by decide) ?_
  refine w_ldcS (i := 6) (tx := "letter") d_NS_nameOf_70 (by decide +kernel) ?_
  rw [← hEN]
  refine w_aret d_NS_nameOf_72 rfl (Or.inl ⟨_, rfl⟩) rfl ?_
  exact ⟨rfl, rfl⟩
set_option maxHeartbeats 4000000 in
set_option maxRecDepth 100000 in
theorem m_NS_edgesOf_6 {h : wH} : PM X M_NS_edgesOf 0 0 0 [.int (nI 6)] h (fun r h' => r = some (.ref (1000 + 6)) ∧ h' = h) := by
  refine PM.at (pl := [some (.int (nI 6))]) rfl rfl (by simp [wle, wen]) ?_
  generalize hEN : wEm X 0 0 _ = EN
  refine w_iload_n d_NS_edgesOf_0 rfl ?_
  refine w_tableIn (off := 75) (tgt := 76) d_NS_edgesOf_1 (by decide) (by decide) (by decide) (by decide) ?_
  refine w_gets (i := 6) d_NS_edgesOf_76 (by decide +kernel) g_NS_77 ?_
  rw [← hEN]
  refine w_aret d_NS_edgesOf_79 rfl (Or.inr ⟨_, rfl⟩) rfl ?_
  exact ⟨rfl, rfl⟩
set_option maxHeartbeats 4000000 in
set_option maxRecDepth 100000 in
theorem m_NS_nameOf_7 {h : wH} : PM X M_NS_nameOf 0 0 0 [.int (nI 7)] h (fun r h' => r = some (.ref (1100 + 7)) ∧ h' = h) := by
  refine PM.at (pl := [some (.int (nI 7))]) rfl rfl (by simp [wle, wen]) ?_
  generalize hEN : wEm X 0 0 _ = EN
  refine w_iload_n d_NS_nameOf_0 rfl ?_
  refine w_tableIn (off := 72) (tgt := 73) d_NS_nameOf_1 (by decide) (by decide) (by decide) (by decide) ?_
  refine w_ldcS (i := 7) (tx := "greek") d_NS_nameOf_73 (by decide +kernel) ?_
  rw [← hEN]
  refine w_aret d_NS_nameOf_75 rfl (Or.inl ⟨_, rfl⟩) rfl ?_
  exact ⟨rfl, rfl⟩
set_option maxHeartbeats 4000000 in
set_option maxRecDepth 100000 in
theorem m_NS_edgesOf_7 {h : wH} : PM X M_NS_edgesOf 0 0 0 [.int (nI 7)] h (fun r h' => r = some (.ref (1000 + 7)) ∧ h' = h) := by
  refine PM.at (pl := [some (.int (nI 7))]) rfl rfl (by simp [wle, wen]) ?_
  generalize hEN : wEm X 0 0 _ = EN
  refine w_iload_n d_NS_edgesOf_0 rfl ?_
  refine w_tableIn (off := 79) (tgt := 80) d_NS_edgesOf_1 (by decide) (by decide) (by decide) (by decide) ?_
  refine w_gets (i := 7) d_NS_edgesOf_80 (by decide +kernel) g_NS_80 ?_
  rw [← hEN]
  refine w_aret d_NS_edgesOf_83 rfl (Or.inr ⟨_, rfl⟩) rfl ?_
  exact ⟨rfl, rfl⟩
set_option maxHeartbeats 4000000 in
set_option maxRecDepth 100000 in
theorem m_NS_nameOf_8 {h : wH} : PM X M_NS_nameOf 0 0 0 [.int (nI 8)] h (fun r h' => r = some (.ref (1100 + 8)) ∧ h' = h) := by
  refine PM.at (pl := [some (.int (nI 8))]) rfl rfl (by simp [wle, wen]) ?_
  generalize hEN : wEm X 0 0 _ = EN
  refine w_iload_n d_NS_nameOf_0 rfl ?_
  refine w_tableIn (off := 75) (tgt := 76) d_NS_nameOf_1 (by decide) (by decide) (by decide) (by decide) ?_
  refine w_ldcS (i := 8) (tx := "space") d_NS_nameOf_76 (by decide +kernel) ?_
  rw [← hEN]
  refine w_aret d_NS_nameOf_78 rfl (Or.inl ⟨_, rfl⟩) rfl ?_
  exact ⟨rfl, rfl⟩
set_option maxHeartbeats 4000000 in
set_option maxRecDepth 100000 in
theorem m_NS_edgesOf_8 {h : wH} : PM X M_NS_edgesOf 0 0 0 [.int (nI 8)] h (fun r h' => r = some (.ref (1000 + 8)) ∧ h' = h) := by
  refine PM.at (pl := [some (.int (nI 8))]) rfl rfl (by simp [wle, wen]) ?_
  generalize hEN : wEm X 0 0 _ = EN
  refine w_iload_n d_NS_edgesOf_0 rfl ?_
  refine w_tableIn (off := 83) (tgt := 84) d_NS_edgesOf_1 (by decide) (by decide) (by decide) (by decide) ?_
  refine w_gets (i := 8) d_NS_edgesOf_84 (by decide +kernel) g_NS_83 ?_
  rw [← hEN]
  refine w_aret d_NS_edgesOf_87 rfl (Or.inr ⟨_, rfl⟩) rfl ?_
  exact ⟨rfl, rfl⟩
set_option maxHeartbeats 4000000 in
set_option maxRecDepth 100000 in
theorem m_NS_nameOf_9 {h : wH} : PM X M_NS_nameOf 0 0 0 [.int (nI 9)] h (fun r h' => r = some (.ref (1100 + 9)) ∧ h' = h) := by
  refine PM.at (pl := [some (.int (nI 9))]) rfl rfl (by simp [wle, wen]) ?_
  generalize hEN : wEm X 0 0 _ = EN
  refine w_iload_n d_NS_nameOf_0 rfl ?_
  refine w_tableOut (tgt := 79) d_NS_nameOf_1 (by decide) (by decide) ?_
  refine w_ldcS (i := 9) (tx := "surrogate") d_NS_nameOf_79 (by decide +kernel) ?_
  rw [← hEN]
  refine w_aret d_NS_nameOf_81 rfl (Or.inl ⟨_, rfl⟩) rfl ?_
  exact ⟨rfl, rfl⟩
set_option maxHeartbeats 4000000 in
set_option maxRecDepth 100000 in
theorem m_NS_edgesOf_9 {h : wH} : PM X M_NS_edgesOf 0 0 0 [.int (nI 9)] h (fun r h' => r = some (.ref (1000 + 9)) ∧ h' = h) := by
  refine PM.at (pl := [some (.int (nI 9))]) rfl rfl (by simp [wle, wen]) ?_
  generalize hEN : wEm X 0 0 _ = EN
  refine w_iload_n d_NS_edgesOf_0 rfl ?_
  refine w_tableOut (tgt := 88) d_NS_edgesOf_1 (by decide) (by decide) ?_
  refine w_gets (i := 9) d_NS_edgesOf_88 (by decide +kernel) g_NS_86 ?_
  rw [← hEN]
  refine w_aret d_NS_edgesOf_91 rfl (Or.inr ⟨_, rfl⟩) rfl ?_
  exact ⟨rfl, rfl⟩
set_option maxHeartbeats 4000000 in
set_option maxRecDepth 100000 in
theorem m_NS_isSame {h : wH} {p i : Nat} {l : List Nat} (hi : i < wSN) (hl : hCR h p l) (hlb : ∀ x ∈ l, x < 2 ^ 31) : PM X M_NS_isSame 4 0 0 [.ref p, .ref (1100 + i)] h (fun r h' => r = some (.int (bI (decide (l = nmL.getD i [])))) ∧ h' = h) := by
  obtain ⟨lf, lp, la, ll, lhf⟩ := hl
  obtain ⟨q1, q2⟩ := nmL_len i hi
  refine PM.at (pl := [some (.ref p), some (.ref (1100 + i)), none]) rfl rfl (by simp [wle, wen]) ?_
  generalize hEN : wEm X 0 0 _ = EN
  have L : ∀ (n : Nat) (k : Nat), (l.length - k < n) → (k ≤ l.length) → (l.length = (nmL.getD i []).length) → (∀ j, j < k → l[j]? = (nmL.getD i [])[j]?) → WP X M_NS_isSame (wR 4 0 0) 0 EN 0 0 15 [some (.ref p), some (.ref (1100 + i)), some (.int (nI k))] [] h := by
    intro n
    induction n with
    | zero => intro k k1 k2 k3 k4; omega
    | succ n ih =>
      intro k k1 k2 k3 k4
      refine w_iload_n d_NS_isSame_15 rfl ?_
      refine w_aload_n d_NS_isSame_16 rfl rfl ?_
      refine w_get d_NS_isSame_17 f_NS_19 lp rfl ?_
      refine w_icmp_ge (tgt := 45) d_NS_isSame_20 rfl (fun c20 => ?_) (fun c20 => ?_)
      · have c20 := (nI_leI (a := l.length) (b := k) (by omega) (by omega)).mp c20
        refine w_iconst (v := nI 1) d_NS_isSame_45 (by decide) ?_
        rw [← hEN]
        refine w_zret d_NS_isSame_46 rfl (by first | exact Or.inl rfl | exact Or.inr rfl) ?_
        rw [decide_eq_true (List.ext_getElem? (fun j => ?_))]
        · exact ⟨rfl, rfl⟩
        · by_cases hj : j < k
          · exact k4 j hj
          · rw [List.getElem?_eq_none (by omega), List.getElem?_eq_none (by omega)]
      · have c20 : k < l.length := Nat.not_le.mp (fun z => c20 ((nI_leI (a := l.length) (b := k) (by omega) (by omega)).mpr z))
        obtain ⟨x, hx⟩ : ∃ x, l[k]? = some x := ⟨_, List.getElem?_eq_getElem c20⟩
        have hx31 := hlb x (List.mem_of_getElem? hx)
        obtain ⟨y, hy⟩ : ∃ y, (nmL.getD i [])[k]? = some y := ⟨_, List.getElem?_eq_getElem (by omega)⟩
        have hyD : (nmL.getD i []).getD k 0 = y := by rw [List.getD_eq_getElem?_getD, hy]; rfl
        have hyb := nmL_b i hi y (List.mem_of_getElem? hy)
        refine w_aload_n d_NS_isSame_23 rfl rfl ?_
        refine w_get d_NS_isSame_24 f_NS_31 lp rfl ?_
        refine w_iload_n d_NS_isSame_27 rfl ?_
        refine w_iald d_NS_isSame_28 la (vp_in_nI (by omega) (by omega)) ?_
        refine w_topi (y := nI x) (by rw [nI_clamp (by omega)]; exact lhf _ _ hx) ?_
        refine w_aload_n d_NS_isSame_29 rfl rfl ?_
        refine w_iload_n d_NS_isSame_30 rfl ?_
        refine w_callVS (i := i) (as := [.int (nI k)]) (st := [.int (nI x)]) hi d_NS_isSame_31 yM_ST_charAt (ml_NS_35) vM_ST_charAt rfl rfl rfl (m_ST_charAt hi (by omega)) (by decide) (by decide) (Nat.le_of_ble_eq_true rfl) ?_
        rintro _ h9_1 ⟨rfl, e9_1⟩
        rw [e9_1]
        refine w_eq (st' := [.int (nI ((nmL.getD i []).getD k 0)), .int (nI x)]) rfl ?_
        refine w_icmp_eq (tgt := 39) d_NS_isSame_34 rfl (fun c34 => ?_) (fun c34 => ?_)
        · have cxy : x = y := (nI_eq hx31 (by omega)).mp (by rw [← hyD]; exact c34)
          refine w_iinc (v := nI (k + 1)) d_NS_isSame_39 rfl (nI_1 _) (by decide) ?_
          refine w_pl (pl' := [some (.ref p), some (.ref (1100 + i)), some (.int (nI (k + 1)))]) rfl ?_
          refine w_goto (tgt := 15) d_NS_isSame_42 rfl ?_
          exact ih (k + 1) (by omega) (by omega) k3 (fun j hj => by
            by_cases hjk : j = k
            · subst hjk; rw [hx, hy, cxy]
            · exact k4 j (by omega))
        · have c34 : ¬ x = y := fun z => c34 (by rw [hyD, z])
          refine w_iconst (v := nI 0) d_NS_isSame_37 (by decide) ?_
          rw [← hEN]
          refine w_zret d_NS_isSame_38 rfl (by first | exact Or.inl rfl | exact Or.inr rfl) ?_
          rw [decide_eq_false (fun z => c34 (by rw [z] at hx; rw [hx] at hy; exact Option.some.inj hy))]
          exact ⟨rfl, rfl⟩
  refine w_aload_n d_NS_isSame_0 rfl rfl ?_
  refine w_get d_NS_isSame_1 f_NS_19 lp rfl ?_
  refine w_aload_n d_NS_isSame_4 rfl rfl ?_
  refine w_callVS (i := i) (as := []) (st := [.int (nI l.length)]) hi d_NS_isSame_5 yM_ST_length (ml_NS_25) vM_ST_length rfl rfl rfl (m_ST_length hi) (by decide) (by decide) (Nat.le_of_ble_eq_true rfl) ?_
  rintro _ h9_2 ⟨rfl, e9_2⟩
  rw [e9_2]
  refine w_eq (st' := [.int (nI (wSl.getD i 0)), .int (nI l.length)]) rfl ?_
  refine w_icmp_eq (tgt := 13) d_NS_isSame_8 rfl (fun c8 => ?_) (fun c8 => ?_)
  · have c8 : l.length = wSl.getD i 0 := (nI_eq (by omega) (by omega)).mp c8
    refine w_iconst (v := nI 0) d_NS_isSame_13 (by decide) ?_
    refine w_istore_n d_NS_isSame_14 (by decide) ?_
    refine w_pl (pl' := [some (.ref p), some (.ref (1100 + i)), some (.int (nI 0))]) rfl ?_
    exact L (l.length + 1) 0 (by omega) (Nat.zero_le _) (by omega) (fun j hj => by omega)
  · have c8 : ¬ l.length = wSl.getD i 0 := fun z => c8 (by rw [z])
    refine w_iconst (v := nI 0) d_NS_isSame_11 (by decide) ?_
    rw [← hEN]
    refine w_zret d_NS_isSame_12 rfl (by first | exact Or.inl rfl | exact Or.inr rfl) ?_
    rw [decide_eq_false (fun z => c8 (by rw [z, q1]))]
    exact ⟨rfl, rfl⟩
set_option maxHeartbeats 4000000 in
set_option maxRecDepth 100000 in
theorem m_NS_numberOf {h : wH} {p : Nat} {l : List Nat} (hl : hCR h p l) (hlb : ∀ x ∈ l, x < 2 ^ 31) : PM X M_NS_numberOf 5 0 0 [.ref p] h (fun r h' => r = some (.int (nmN l)) ∧ h' = h) := by
  refine PM.at (pl := [some (.ref p), none]) rfl rfl (by simp [wle, wen]) ?_
  generalize hEN : wEm X 0 0 _ = EN
  refine w_iconst (v := nI 0) d_NS_numberOf_0 (by decide) ?_
  refine w_istore_n d_NS_numberOf_1 (by decide) ?_
  refine w_pl (pl' := [some (.ref p), some (.int (nI 0))]) rfl ?_
  refine w_iload_n d_NS_numberOf_2 rfl ?_
  refine w_bipush (v := nI 10) d_NS_numberOf_3 (by decide) ?_
  refine w_icmp_ge (tgt := 27) d_NS_numberOf_5 rfl (fun z => absurd z (by decide)) (fun _ => ?_)
  refine w_aload_n d_NS_numberOf_8 rfl rfl ?_
  refine w_iload_n d_NS_numberOf_9 rfl ?_
  refine w_callS (as := [.int (nI 0)]) (st := [.ref p]) d_NS_numberOf_10 yM_NS_nameOf l_NS_11 sM_NS_nameOf rfl rfl (m_NS_nameOf_0) (by decide) (by decide) (by decide) (by decide) (Nat.le_of_ble_eq_true rfl) ?_
  rintro _ h9_1 ⟨rfl, e9_1⟩
  rw [e9_1]
  refine w_eq (st' := [.ref (1100 + 0), .ref p]) rfl ?_
  refine w_callS (as := [.ref p, .ref (1100 + 0)]) (st := []) d_NS_numberOf_13 yM_NS_isSame l_NS_15 sM_NS_isSame rfl rfl (m_NS_isSame (i := 0) (by decide) hl hlb) (by decide) (by decide) (by decide) (by decide) (Nat.le_of_ble_eq_true rfl) ?_
  rintro _ h9_2 ⟨rfl, e9_2⟩
  rw [e9_2]
  refine w_eq (st' := [.int (bI (decide (l = nmL.getD 0 [])))]) rfl ?_
  refine w_if_eq (tgt := 21) d_NS_numberOf_16 rfl (fun c16 => ?_) (fun c16 => ?_)
  · have n0 := of_decide_eq_false (bI_f c16)
    refine w_iinc (v := nI 1) d_NS_numberOf_21 rfl (by decide) (by decide) ?_
    refine w_pl (pl' := [some (.ref p), some (.int (nI 1))]) rfl ?_
    refine w_goto (tgt := 2) d_NS_numberOf_24 rfl ?_
    refine w_iload_n d_NS_numberOf_2 rfl ?_
    refine w_bipush (v := nI 10) d_NS_numberOf_3 (by decide) ?_
    refine w_icmp_ge (tgt := 27) d_NS_numberOf_5 rfl (fun z => absurd z (by decide)) (fun _ => ?_)
    refine w_aload_n d_NS_numberOf_8 rfl rfl ?_
    refine w_iload_n d_NS_numberOf_9 rfl ?_
    refine w_callS (as := [.int (nI 1)]) (st := [.ref p]) d_NS_numberOf_10 yM_NS_nameOf l_NS_11 sM_NS_nameOf rfl rfl (m_NS_nameOf_1) (by decide) (by decide) (by decide) (by decide) (Nat.le_of_ble_eq_true rfl) ?_
    rintro _ h9_3 ⟨rfl, e9_3⟩
    rw [e9_3]
    refine w_eq (st' := [.ref (1100 + 1), .ref p]) rfl ?_
    refine w_callS (as := [.ref p, .ref (1100 + 1)]) (st := []) d_NS_numberOf_13 yM_NS_isSame l_NS_15 sM_NS_isSame rfl rfl (m_NS_isSame (i := 1) (by decide) hl hlb) (by decide) (by decide) (by decide) (by decide) (Nat.le_of_ble_eq_true rfl) ?_
    rintro _ h9_4 ⟨rfl, e9_4⟩
    rw [e9_4]
    refine w_eq (st' := [.int (bI (decide (l = nmL.getD 1 [])))]) rfl ?_
    refine w_if_eq (tgt := 21) d_NS_numberOf_16 rfl (fun c16 => ?_) (fun c16 => ?_)
    · have n1 := of_decide_eq_false (bI_f c16)
      refine w_iinc (v := nI 2) d_NS_numberOf_21 rfl (by decide) (by decide) ?_
      refine w_pl (pl' := [some (.ref p), some (.int (nI 2))]) rfl ?_
      refine w_goto (tgt := 2) d_NS_numberOf_24 rfl ?_
      refine w_iload_n d_NS_numberOf_2 rfl ?_
      refine w_bipush (v := nI 10) d_NS_numberOf_3 (by decide) ?_
      refine w_icmp_ge (tgt := 27) d_NS_numberOf_5 rfl (fun z => absurd z (by decide)) (fun _ => ?_)
      refine w_aload_n d_NS_numberOf_8 rfl rfl ?_
      refine w_iload_n d_NS_numberOf_9 rfl ?_
      refine w_callS (as := [.int (nI 2)]) (st := [.ref p]) d_NS_numberOf_10 yM_NS_nameOf l_NS_11 sM_NS_nameOf rfl rfl (m_NS_nameOf_2) (by decide) (by decide) (by decide) (by decide) (Nat.le_of_ble_eq_true rfl) ?_
      rintro _ h9_5 ⟨rfl, e9_5⟩
      rw [e9_5]
      refine w_eq (st' := [.ref (1100 + 2), .ref p]) rfl ?_
      refine w_callS (as := [.ref p, .ref (1100 + 2)]) (st := []) d_NS_numberOf_13 yM_NS_isSame l_NS_15 sM_NS_isSame rfl rfl (m_NS_isSame (i := 2) (by decide) hl hlb) (by decide) (by decide) (by decide) (by decide) (Nat.le_of_ble_eq_true rfl) ?_
      rintro _ h9_6 ⟨rfl, e9_6⟩
      rw [e9_6]
      refine w_eq (st' := [.int (bI (decide (l = nmL.getD 2 [])))]) rfl ?_
      refine w_if_eq (tgt := 21) d_NS_numberOf_16 rfl (fun c16 => ?_) (fun c16 => ?_)
      · have n2 := of_decide_eq_false (bI_f c16)
        refine w_iinc (v := nI 3) d_NS_numberOf_21 rfl (by decide) (by decide) ?_
        refine w_pl (pl' := [some (.ref p), some (.int (nI 3))]) rfl ?_
        refine w_goto (tgt := 2) d_NS_numberOf_24 rfl ?_
        refine w_iload_n d_NS_numberOf_2 rfl ?_
        refine w_bipush (v := nI 10) d_NS_numberOf_3 (by decide) ?_
        refine w_icmp_ge (tgt := 27) d_NS_numberOf_5 rfl (fun z => absurd z (by decide)) (fun _ => ?_)
        refine w_aload_n d_NS_numberOf_8 rfl rfl ?_
        refine w_iload_n d_NS_numberOf_9 rfl ?_
        refine w_callS (as := [.int (nI 3)]) (st := [.ref p]) d_NS_numberOf_10 yM_NS_nameOf l_NS_11 sM_NS_nameOf rfl rfl (m_NS_nameOf_3) (by decide) (by decide) (by decide) (by decide) (Nat.le_of_ble_eq_true rfl) ?_
        rintro _ h9_7 ⟨rfl, e9_7⟩
        rw [e9_7]
        refine w_eq (st' := [.ref (1100 + 3), .ref p]) rfl ?_
        refine w_callS (as := [.ref p, .ref (1100 + 3)]) (st := []) d_NS_numberOf_13 yM_NS_isSame l_NS_15 sM_NS_isSame rfl rfl (m_NS_isSame (i := 3) (by decide) hl hlb) (by decide) (by decide) (by decide) (by decide) (Nat.le_of_ble_eq_true rfl) ?_
        rintro _ h9_8 ⟨rfl, e9_8⟩
        rw [e9_8]
        refine w_eq (st' := [.int (bI (decide (l = nmL.getD 3 [])))]) rfl ?_
        refine w_if_eq (tgt := 21) d_NS_numberOf_16 rfl (fun c16 => ?_) (fun c16 => ?_)
        · have n3 := of_decide_eq_false (bI_f c16)
          refine w_iinc (v := nI 4) d_NS_numberOf_21 rfl (by decide) (by decide) ?_
          refine w_pl (pl' := [some (.ref p), some (.int (nI 4))]) rfl ?_
          refine w_goto (tgt := 2) d_NS_numberOf_24 rfl ?_
          refine w_iload_n d_NS_numberOf_2 rfl ?_
          refine w_bipush (v := nI 10) d_NS_numberOf_3 (by decide) ?_
          refine w_icmp_ge (tgt := 27) d_NS_numberOf_5 rfl (fun z => absurd z (by decide)) (fun _ => ?_)
          refine w_aload_n d_NS_numberOf_8 rfl rfl ?_
          refine w_iload_n d_NS_numberOf_9 rfl ?_
          refine w_callS (as := [.int (nI 4)]) (st := [.ref p]) d_NS_numberOf_10 yM_NS_nameOf l_NS_11 sM_NS_nameOf rfl rfl (m_NS_nameOf_4) (by decide) (by decide) (by decide) (by decide) (Nat.le_of_ble_eq_true rfl) ?_
          rintro _ h9_9 ⟨rfl, e9_9⟩
          rw [e9_9]
          refine w_eq (st' := [.ref (1100 + 4), .ref p]) rfl ?_
          refine w_callS (as := [.ref p, .ref (1100 + 4)]) (st := []) d_NS_numberOf_13 yM_NS_isSame l_NS_15 sM_NS_isSame rfl rfl (m_NS_isSame (i := 4) (by decide) hl hlb) (by decide) (by decide) (by decide) (by decide) (Nat.le_of_ble_eq_true rfl) ?_
          rintro _ h9_10 ⟨rfl, e9_10⟩
          rw [e9_10]
          refine w_eq (st' := [.int (bI (decide (l = nmL.getD 4 [])))]) rfl ?_
          refine w_if_eq (tgt := 21) d_NS_numberOf_16 rfl (fun c16 => ?_) (fun c16 => ?_)
          · have n4 := of_decide_eq_false (bI_f c16)
            refine w_iinc (v := nI 5) d_NS_numberOf_21 rfl (by decide) (by decide) ?_
            refine w_pl (pl' := [some (.ref p), some (.int (nI 5))]) rfl ?_
            refine w_goto (tgt := 2) d_NS_numberOf_24 rfl ?_
            refine w_iload_n d_NS_numberOf_2 rfl ?_
            refine w_bipush (v := nI 10) d_NS_numberOf_3 (by decide) ?_
            refine w_icmp_ge (tgt := 27) d_NS_numberOf_5 rfl (fun z => absurd z (by decide)) (fun _ => ?_)
            refine w_aload_n d_NS_numberOf_8 rfl rfl ?_
            refine w_iload_n d_NS_numberOf_9 rfl ?_
            refine w_callS (as := [.int (nI 5)]) (st := [.ref p]) d_NS_numberOf_10 yM_NS_nameOf l_NS_11 sM_NS_nameOf rfl rfl (m_NS_nameOf_5) (by decide) (by decide) (by decide) (by decide) (Nat.le_of_ble_eq_true rfl) ?_
            rintro _ h9_11 ⟨rfl, e9_11⟩
            rw [e9_11]
            refine w_eq (st' := [.ref (1100 + 5), .ref p]) rfl ?_
            refine w_callS (as := [.ref p, .ref (1100 + 5)]) (st := []) d_NS_numberOf_13 yM_NS_isSame l_NS_15 sM_NS_isSame rfl rfl (m_NS_isSame (i := 5) (by decide) hl hlb) (by decide) (by decide) (by decide) (by decide) (Nat.le_of_ble_eq_true rfl) ?_
            rintro _ h9_12 ⟨rfl, e9_12⟩
            rw [e9_12]
            refine w_eq (st' := [.int (bI (decide (l = nmL.getD 5 [])))]) rfl ?_
            refine w_if_eq (tgt := 21) d_NS_numberOf_16 rfl (fun c16 => ?_) (fun c16 => ?_)
            · have n5 := of_decide_eq_false (bI_f c16)
              refine w_iinc (v := nI 6) d_NS_numberOf_21 rfl (by decide) (by decide) ?_
              refine w_pl (pl' := [some (.ref p), some (.int (nI 6))]) rfl ?_
              refine w_goto (tgt := 2) d_NS_numberOf_24 rfl ?_
              refine w_iload_n d_NS_numberOf_2 rfl ?_
              refine w_bipush (v := nI 10) d_NS_numberOf_3 (by decide) ?_
              refine w_icmp_ge (tgt := 27) d_NS_numberOf_5 rfl (fun z => absurd z (by decide)) (fun _ => ?_)
              refine w_aload_n d_NS_numberOf_8 rfl rfl ?_
              refine w_iload_n d_NS_numberOf_9 rfl ?_
              refine w_callS (as := [.int (nI 6)]) (st := [.ref p]) d_NS_numberOf_10 yM_NS_nameOf l_NS_11 sM_NS_nameOf rfl rfl (m_NS_nameOf_6) (by decide) (by decide) (by decide) (by decide) (Nat.le_of_ble_eq_true rfl) ?_
              rintro _ h9_13 ⟨rfl, e9_13⟩
              rw [e9_13]
              refine w_eq (st' := [.ref (1100 + 6), .ref p]) rfl ?_
              refine w_callS (as := [.ref p, .ref (1100 + 6)]) (st := []) d_NS_numberOf_13 yM_NS_isSame l_NS_15 sM_NS_isSame rfl rfl (m_NS_isSame (i := 6) (by decide) hl hlb) (by decide) (by decide) (by decide) (by decide) (Nat.le_of_ble_eq_true rfl) ?_
              rintro _ h9_14 ⟨rfl, e9_14⟩
              rw [e9_14]
              refine w_eq (st' := [.int (bI (decide (l = nmL.getD 6 [])))]) rfl ?_
              refine w_if_eq (tgt := 21) d_NS_numberOf_16 rfl (fun c16 => ?_) (fun c16 => ?_)
              · have n6 := of_decide_eq_false (bI_f c16)
                refine w_iinc (v := nI 7) d_NS_numberOf_21 rfl (by decide) (by decide) ?_
                refine w_pl (pl' := [some (.ref p), some (.int (nI 7))]) rfl ?_
                refine w_goto (tgt := 2) d_NS_numberOf_24 rfl ?_
                refine w_iload_n d_NS_numberOf_2 rfl ?_
                refine w_bipush (v := nI 10) d_NS_numberOf_3 (by decide) ?_
                refine w_icmp_ge (tgt := 27) d_NS_numberOf_5 rfl (fun z => absurd z (by decide)) (fun _ => ?_)
                refine w_aload_n d_NS_numberOf_8 rfl rfl ?_
                refine w_iload_n d_NS_numberOf_9 rfl ?_
                refine w_callS (as := [.int (nI 7)]) (st := [.ref p]) d_NS_numberOf_10 yM_NS_nameOf l_NS_11 sM_NS_nameOf rfl rfl (m_NS_nameOf_7) (by decide) (by decide) (by decide) (by decide) (Nat.le_of_ble_eq_true rfl) ?_
                rintro _ h9_15 ⟨rfl, e9_15⟩
                rw [e9_15]
                refine w_eq (st' := [.ref (1100 + 7), .ref p]) rfl ?_
                refine w_callS (as := [.ref p, .ref (1100 + 7)]) (st := []) d_NS_numberOf_13 yM_NS_isSame l_NS_15 sM_NS_isSame rfl rfl (m_NS_isSame (i := 7) (by decide) hl hlb) (by decide) (by decide) (by decide) (by decide) (Nat.le_of_ble_eq_true rfl) ?_
                rintro _ h9_16 ⟨rfl, e9_16⟩
                rw [e9_16]
                refine w_eq (st' := [.int (bI (decide (l = nmL.getD 7 [])))]) rfl ?_
                refine w_if_eq (tgt := 21) d_NS_numberOf_16 rfl (fun c16 => ?_) (fun c16 => ?_)
                · have n7 := of_decide_eq_false (bI_f c16)
                  refine w_iinc (v := nI 8) d_NS_numberOf_21 rfl (by decide) (by decide) ?_
                  refine w_pl (pl' := [some (.ref p), some (.int (nI 8))]) rfl ?_
                  refine w_goto (tgt := 2) d_NS_numberOf_24 rfl ?_
                  refine w_iload_n d_NS_numberOf_2 rfl ?_
                  refine w_bipush (v := nI 10) d_NS_numberOf_3 (by decide) ?_
                  refine w_icmp_ge (tgt := 27) d_NS_numberOf_5 rfl (fun z => absurd z (by decide)) (fun _ => ?_)
                  refine w_aload_n d_NS_numberOf_8 rfl rfl ?_
                  refine w_iload_n d_NS_numberOf_9 rfl ?_
                  refine w_callS (as := [.int (nI 8)]) (st := [.ref p]) d_NS_numberOf_10 yM_NS_nameOf l_NS_11 sM_NS_nameOf rfl rfl (m_NS_nameOf_8) (by decide) (by decide) (by decide) (by decide) (Nat.le_of_ble_eq_true rfl) ?_
                  rintro _ h9_17 ⟨rfl, e9_17⟩
                  rw [e9_17]
                  refine w_eq (st' := [.ref (1100 + 8), .ref p]) rfl ?_
                  refine w_callS (as := [.ref p, .ref (1100 + 8)]) (st := []) d_NS_numberOf_13 yM_NS_isSame l_NS_15 sM_NS_isSame rfl rfl (m_NS_isSame (i := 8) (by decide) hl hlb) (by decide) (by decide) (by decide) (by decide) (Nat.le_of_ble_eq_true rfl) ?_
                  rintro _ h9_18 ⟨rfl, e9_18⟩
                  rw [e9_18]
                  refine w_eq (st' := [.int (bI (decide (l = nmL.getD 8 [])))]) rfl ?_
                  refine w_if_eq (tgt := 21) d_NS_numberOf_16 rfl (fun c16 => ?_) (fun c16 => ?_)
                  · have n8 := of_decide_eq_false (bI_f c16)
                    refine w_iinc (v := nI 9) d_NS_numberOf_21 rfl (by decide) (by decide) ?_
                    refine w_pl (pl' := [some (.ref p), some (.int (nI 9))]) rfl ?_
                    refine w_goto (tgt := 2) d_NS_numberOf_24 rfl ?_
                    refine w_iload_n d_NS_numberOf_2 rfl ?_
                    refine w_bipush (v := nI 10) d_NS_numberOf_3 (by decide) ?_
                    refine w_icmp_ge (tgt := 27) d_NS_numberOf_5 rfl (fun z => absurd z (by decide)) (fun _ => ?_)
                    refine w_aload_n d_NS_numberOf_8 rfl rfl ?_
                    refine w_iload_n d_NS_numberOf_9 rfl ?_
                    refine w_callS (as := [.int (nI 9)]) (st := [.ref p]) d_NS_numberOf_10 yM_NS_nameOf l_NS_11 sM_NS_nameOf rfl rfl (m_NS_nameOf_9) (by decide) (by decide) (by decide) (by decide) (Nat.le_of_ble_eq_true rfl) ?_
                    rintro _ h9_19 ⟨rfl, e9_19⟩
                    rw [e9_19]
                    refine w_eq (st' := [.ref (1100 + 9), .ref p]) rfl ?_
                    refine w_callS (as := [.ref p, .ref (1100 + 9)]) (st := []) d_NS_numberOf_13 yM_NS_isSame l_NS_15 sM_NS_isSame rfl rfl (m_NS_isSame (i := 9) (by decide) hl hlb) (by decide) (by decide) (by decide) (by decide) (Nat.le_of_ble_eq_true rfl) ?_
                    rintro _ h9_20 ⟨rfl, e9_20⟩
                    rw [e9_20]
                    refine w_eq (st' := [.int (bI (decide (l = nmL.getD 9 [])))]) rfl ?_
                    refine w_if_eq (tgt := 21) d_NS_numberOf_16 rfl (fun c16 => ?_) (fun c16 => ?_)
                    · have n9 := of_decide_eq_false (bI_f c16)
                      refine w_iinc (v := nI 10) d_NS_numberOf_21 rfl (by decide) (by decide) ?_
                      refine w_pl (pl' := [some (.ref p), some (.int (nI 10))]) rfl ?_
                      refine w_goto (tgt := 2) d_NS_numberOf_24 rfl ?_
                      refine w_iload_n d_NS_numberOf_2 rfl ?_
                      refine w_bipush (v := nI 10) d_NS_numberOf_3 (by decide) ?_
                      refine w_icmp_ge (tgt := 27) d_NS_numberOf_5 rfl (fun _ => ?_) (fun z => absurd (by decide) z)
                      refine w_iconst (v := -1) d_NS_numberOf_27 (by decide) ?_
                      rw [← hEN]
                      refine w_iret d_NS_numberOf_28 rfl ?_
                      unfold nmN
                      rw [if_neg n0, if_neg n1, if_neg n2, if_neg n3, if_neg n4, if_neg n5, if_neg n6, if_neg n7, if_neg n8, if_neg n9]
                      exact ⟨rfl, rfl⟩
                    · have y9 := of_decide_eq_true (bI_t c16)
                      refine w_iload_n d_NS_numberOf_19 rfl ?_
                      rw [← hEN]
                      refine w_iret d_NS_numberOf_20 rfl ?_
                      unfold nmN
                      rw [if_neg n0, if_neg n1, if_neg n2, if_neg n3, if_neg n4, if_neg n5, if_neg n6, if_neg n7, if_neg n8, if_pos y9]
                      exact ⟨rfl, rfl⟩
                  · have y8 := of_decide_eq_true (bI_t c16)
                    refine w_iload_n d_NS_numberOf_19 rfl ?_
                    rw [← hEN]
                    refine w_iret d_NS_numberOf_20 rfl ?_
                    unfold nmN
                    rw [if_neg n0, if_neg n1, if_neg n2, if_neg n3, if_neg n4, if_neg n5, if_neg n6, if_neg n7, if_pos y8]
                    exact ⟨rfl, rfl⟩
                · have y7 := of_decide_eq_true (bI_t c16)
                  refine w_iload_n d_NS_numberOf_19 rfl ?_
                  rw [← hEN]
                  refine w_iret d_NS_numberOf_20 rfl ?_
                  unfold nmN
                  rw [if_neg n0, if_neg n1, if_neg n2, if_neg n3, if_neg n4, if_neg n5, if_neg n6, if_pos y7]
                  exact ⟨rfl, rfl⟩
              · have y6 := of_decide_eq_true (bI_t c16)
                refine w_iload_n d_NS_numberOf_19 rfl ?_
                rw [← hEN]
                refine w_iret d_NS_numberOf_20 rfl ?_
                unfold nmN
                rw [if_neg n0, if_neg n1, if_neg n2, if_neg n3, if_neg n4, if_neg n5, if_pos y6]
                exact ⟨rfl, rfl⟩
            · have y5 := of_decide_eq_true (bI_t c16)
              refine w_iload_n d_NS_numberOf_19 rfl ?_
              rw [← hEN]
              refine w_iret d_NS_numberOf_20 rfl ?_
              unfold nmN
              rw [if_neg n0, if_neg n1, if_neg n2, if_neg n3, if_neg n4, if_pos y5]
              exact ⟨rfl, rfl⟩
          · have y4 := of_decide_eq_true (bI_t c16)
            refine w_iload_n d_NS_numberOf_19 rfl ?_
            rw [← hEN]
            refine w_iret d_NS_numberOf_20 rfl ?_
            unfold nmN
            rw [if_neg n0, if_neg n1, if_neg n2, if_neg n3, if_pos y4]
            exact ⟨rfl, rfl⟩
        · have y3 := of_decide_eq_true (bI_t c16)
          refine w_iload_n d_NS_numberOf_19 rfl ?_
          rw [← hEN]
          refine w_iret d_NS_numberOf_20 rfl ?_
          unfold nmN
          rw [if_neg n0, if_neg n1, if_neg n2, if_pos y3]
          exact ⟨rfl, rfl⟩
      · have y2 := of_decide_eq_true (bI_t c16)
        refine w_iload_n d_NS_numberOf_19 rfl ?_
        rw [← hEN]
        refine w_iret d_NS_numberOf_20 rfl ?_
        unfold nmN
        rw [if_neg n0, if_neg n1, if_pos y2]
        exact ⟨rfl, rfl⟩
    · have y1 := of_decide_eq_true (bI_t c16)
      refine w_iload_n d_NS_numberOf_19 rfl ?_
      rw [← hEN]
      refine w_iret d_NS_numberOf_20 rfl ?_
      unfold nmN
      rw [if_neg n0, if_pos y1]
      exact ⟨rfl, rfl⟩
  · have y0 := of_decide_eq_true (bI_t c16)
    refine w_iload_n d_NS_numberOf_19 rfl ?_
    rw [← hEN]
    refine w_iret d_NS_numberOf_20 rfl ?_
    unfold nmN
    rw [if_pos y0]
    exact ⟨rfl, rfl⟩
end NS
