/-! the law's start, second part: written by wip/gen/lw6.py -/
/-- the class of arrays of a type -/
theorem ar_1 {args : Array Value} {s : State} {ty : FieldType} (hn : ∀ C, ty ≠ .object C) (h : (Cond.arrayClass ty).before args s = true) : ∃ cA, ArrOfT s cA ty ∧ va_RA s cA ty := by
  obtain ⟨cA, kA, comp, h1, h2, h3⟩ := Cond.arrayClass_spec h
  refine ⟨cA, fun n z => ⟨fun k h => (by cases h), kA, h2, comp, h3⟩, ?_⟩
  cases ty with
  | object C => exact absurd rfl (hn C)
  | _ => exact h1
theorem ar_2 {args : Array Value} {s : State} {C : String} (h : (Cond.arrayOver (.object C)).before args s = true) : ∃ cA, ArrOfT s cA (.object C) ∧ va_RA s cA (.object C) := by
  obtain ⟨comp, cA, kA, h1, h2, h3, h4, h5⟩ := Cond.arrayOver_spec h
  exact ⟨cA, fun n z => ⟨fun k h => (by cases h), kA, h3, comp, h4⟩, kA, comp, h3, h4, h1, h5⟩
set_option maxHeartbeats 4000000 in
/-- all that holds at the entry -/
theorem wK_start {s : State} {b L : Nat} {xs : Nat → Int32} (l : Launch) (hts : ∀ w ∈ lw_tbl, w.before #[Value.ref b] s = true) (hX : va_X b L xs s s.heap) (hbl : b < s.heap.size) (hgv : gv.before #[Value.ref b] s = true) : ∃ X : wX, xl X = l ∧ wK X s ∧ xz X = s.heap.size ∧ xTab X ∧ (xo X)[13]? = some (L, xs) ∧ xa X (1000 + 13) = b := by
  have hg := flat_of_before _ hgv
  have ht : ∀ w ∈ tables_1, w.before #[Value.ref b] s = true := fun w hw => hts w (List.mem_append_right _ hw)
  have hw : ∀ w ∈ wWL, w.before #[Value.ref b] s = true := fun w h => hts w (List.mem_filter.mp h).1
  have hA : ∀ a : Nat, a < s.heap.size → ¬ (fun q => s.heap.size ≤ q) a := fun a h z => absurd z (Nat.not_le.mpr h)
  -- the tables
  have h1 : ∀ i, ∃ t : Nat, i < 13 → (stm i).eval #[Value.ref b] s none [] s = some (.ref t) ∧ va_T .int t (tabL.getD i []).length (fun j => .int (nI ((tabL.getD i []).getD j 0))) (fun q => s.heap.size ≤ q) s s.heap := by
    intro i
    by_cases hi : i < 13
    · obtain ⟨t, h, hT⟩ := va_Tof (args := #[Value.ref b]) (s := s) (tm := stm i) (ty := .int) (N := (tabL.getD i []).length) (f := fun j => .int (nI ((tabL.getD i []).getD j 0))) (tabL_sm i hi) (hg _ (g_arr i hi)) (va_eqt (hg _ (g_len i hi))) (fun j hj => va_eqt (hg _ (g_el i hi j hj))) hA
      exact ⟨t, fun _ => ⟨h, hT⟩⟩
    · exact ⟨0, fun h => absurd h hi⟩
  obtain ⟨ta, hta⟩ := Classical.axiomOfChoice h1
  -- the words
  obtain ⟨adK, adV, hS, hadK⟩ := vk_Sof (args := #[Value.ref b]) (s := s) (N := wSN) (tm := snm) (len := wSl) (byt := wSb) (A := fun q => s.heap.size ≤ q) (by decide) (fun i hi => hg _ (g_ex i hi)) (fun i hi => hg _ (g_co i hi)) (fun i hi => hg _ (g_ar i hi)) (fun i hi => hg _ (g_le i hi)) (fun i hi j hj => hg _ (g_se i hi j hj)) (fun i j hi hj hij => by
    rcases Nat.lt_or_ge i j with z | z
    · exact Or.inl (hg _ (g_ne j hj i z))
    · exact Or.inr (hg _ (g_ne i hi j (by omega)))) hA
  -- the classes
  have h2 : ∀ ci : Nat, ∃ q : ClassId × (Nat → Nat), ∀ r : vw_C, wcl[ci]? = some r → u_Kn s r.1 r.2.1 r.2.2 q.1 q.2 := by
    intro ci
    cases hr : wcl[ci]? with
    | none => exact ⟨(0, fun _ => 0), fun r h => by cases h⟩
    | some r =>
      obtain ⟨cC, iS, h⟩ := u_known (ws := wWL) (s := s) (args := #[Value.ref b]) (C := r.1) (T := r.2.1) (N := r.2.2) (n := r.2.2) hw (wcl_in ci r hr) (hw _ (wcl_i ci r hr))
      exact ⟨(cC, iS), fun r2 h2 => by cases h2; exact h⟩
  obtain ⟨cl9, hcl9⟩ := Classical.axiomOfChoice h2
  obtain ⟨a0, a0'⟩ := ar_1 (ty := .int) (fun C h => by cases h) (hw _ wArrI)
  obtain ⟨a1, a1'⟩ := ar_1 (ty := .long) (fun C h => by cases h) (hw _ wArrJ)
  obtain ⟨a2, a2'⟩ := ar_1 (ty := .boolean) (fun C h => by cases h) (hw _ wArrZ)
  obtain ⟨a3, a3'⟩ := ar_2 (C := "CodePointSets$MemberSet") (ht _ (g_ao _ (by decide)))
  obtain ⟨a4, a4'⟩ := ar_2 (C := "CodePointSets$OpenBracket") (ht _ (g_ao _ (by decide)))
  have hfm := va_Zqof (A := fun q => s.heap.size ≤ q) (ht _ g_fm.2.1) (ht _ g_fm.2.2) (hg _ g_fm.1) hA
  obtain ⟨fm, hfm⟩ : ∃ fm, va_Z "jdk/internal/util/Preconditions" "SIOOBE_FORMATTER" "Ljava/util/function/BiFunction;" (.ref fm) (fun q => s.heap.size ≤ q) s s.heap ∨ va_Z "jdk/internal/util/Preconditions" "SIOOBE_FORMATTER" "Ljava/util/function/BiFunction;" .null (fun q => s.heap.size ≤ q) s s.heap := by
    rcases hfm with z | ⟨t, z⟩
    · exact ⟨0, Or.inr z⟩
    · exact ⟨t, Or.inl z⟩
  refine ⟨(l, (fun c => (cl9 c).1, fun c => (cl9 c).2), (fun t => if t = 0 then a0 else if t = 1 then a1 else if t = 2 then a2 else if t = 3 then a3 else a4), (fun k => if k < 1000 then s.heap.size + k else if k < 1100 then (if k = 1013 then b else ta (k - 1000)) else if k < 1200 then adK (k - 1100) else if k < 1300 then adV (k - 1200) else fm), s.heap.size, tabL.map (fun T => (T.length, fun j => nI (T.getD j 0))) ++ [(L, xs)]), rfl, ?_, rfl, ?_, rfl, rfl⟩
  · have xT : ∀ i, i < 13 → (if 1000 + i < 1000 then s.heap.size + (1000 + i) else if 1000 + i < 1100 then (if 1000 + i = 1013 then b else ta (1000 + i - 1000)) else if 1000 + i < 1200 then adK (1000 + i - 1100) else if 1000 + i < 1300 then adV (1000 + i - 1200) else fm) = ta i := fun i hi => by
      rw [if_neg (by omega), if_pos (by omega), if_neg (by omega), show 1000 + i - 1000 = i by omega]
    refine ⟨fun k hk => if_pos hk, ⟨fun c q hq => hcl9 c q hq, fun k q hq => ?_⟩, fun q hq => va_Nw.of rfl (ht _ (g_nf q hq)), fun q hq => va_Nw.of rfl (ht _ (g_nm q hq)), fun i n f hi => ?_, fun q hq => ?_, fun q hq => ?_, ?_, fun C hC => va_AO.of (ht _ (g_ao C hC)), va_Zof (ht _ g_cs.2.1) (ht _ g_cs.2.2) (va_eqi (hg _ g_cs.1)) hA, ?_⟩
    · match k, hq with
      | 0, hq => cases hq; exact ⟨a0'.1, a0'.2⟩
      | 1, hq => cases hq; exact ⟨a1'.1, a1'.2⟩
      | 2, hq => cases hq; exact ⟨a2'.1, a2'.2⟩
      | 3, hq => cases hq; exact ⟨a3'.1, a3'.2⟩
      | 4, hq => cases hq; exact ⟨a4'.1, a4'.2⟩
      | n + 5, hq => exact absurd hq (by simp [wty])
    · show va_T .int (if 1000 + i < 1000 then s.heap.size + (1000 + i) else if 1000 + i < 1100 then (if 1000 + i = 1013 then b else ta (1000 + i - 1000)) else if 1000 + i < 1200 then adK (1000 + i - 1100) else if 1000 + i < 1300 then adV (1000 + i - 1200) else fm) n (fun j => .int (f j)) (fun q => s.heap.size ≤ q) s s.heap
      have hi : (tabL.map (fun T => (T.length, fun j => nI (T.getD j 0))) ++ [(L, xs)])[i]? = some (n, f) := hi
      have hl13 : (tabL.map (fun T => (T.length, fun j => nI (T.getD j 0)))).length = 13 := by rw [List.length_map]; rfl
      by_cases h13 : i < 13
      · rw [xT i h13]
        rw [List.getElem?_append_left (by omega), List.getElem?_map] at hi
        have hx := (hta i h13).2
        have ht9 : tabL[i]? = some (tabL.getD i []) := by rw [List.getD_eq_getElem?_getD]; cases hz : tabL[i]? with | none => rw [hz] at hi; cases hi | some T => rfl
        rw [ht9] at hi
        cases hi
        exact hx
      · have hi13 : i = 13 := by
          have := (List.getElem?_eq_some_iff.mp hi).1
          rw [List.length_append, hl13, List.length_singleton] at this
          omega
        subst hi13
        rw [List.getElem?_append_right (by omega), hl13] at hi
        cases hi
        rw [if_neg (by omega), if_pos (by omega), if_pos rfl]
        obtain ⟨scr, x1, x2, x3, x4, x5⟩ := hX
        exact ⟨scr, x1, x2, x3, by omega, by rw [x4], x5, hA b hbl⟩
    · obtain ⟨z1, z2, z3⟩ := g_sf q hq
      show va_Z q.1 q.2.1 "[I" (.ref (if 1000 + q.2.2 < 1000 then s.heap.size + (1000 + q.2.2) else if 1000 + q.2.2 < 1100 then (if 1000 + q.2.2 = 1013 then b else ta (1000 + q.2.2 - 1000)) else if 1000 + q.2.2 < 1200 then adK (1000 + q.2.2 - 1100) else if 1000 + q.2.2 < 1300 then adV (1000 + q.2.2 - 1200) else fm)) (fun q => s.heap.size ≤ q) s s.heap
      rw [xT _ z1]
      have hv := (hta _ z1).1
      have y1 := ht _ (g_ls _ z1)
      have y2 := ht _ (g_in _ z1)
      unfold stm at hv
      rw [z2, z3] at hv y1
      rw [z2] at y2
      exact va_Zref y1 y2 hv hA
    · obtain ⟨z1, z2, z3, z4⟩ := g_sr q hq
      show vk_R q.1 q.2.1 q.2.2.1 (if 1100 + q.2.2.2 < 1000 then s.heap.size + (1100 + q.2.2.2) else if 1100 + q.2.2.2 < 1100 then (if 1100 + q.2.2.2 = 1013 then b else ta (1100 + q.2.2.2 - 1000)) else if 1100 + q.2.2.2 < 1200 then adK (1100 + q.2.2.2 - 1100) else if 1100 + q.2.2.2 < 1300 then adV (1100 + q.2.2.2 - 1200) else fm) s
      rw [if_neg (by omega), if_neg (by omega), if_pos (by omega), show 1100 + q.2.2.2 - 1100 = q.2.2.2 by omega]
      have hv := hadK _ z4
      unfold snm at hv
      rw [← z2, ← z3] at hv
      exact vk_R.of (ht _ z1) hv
    · show vk_S wSN wSl wSb (fun i => if 1100 + i < 1000 then s.heap.size + (1100 + i) else if 1100 + i < 1100 then (if 1100 + i = 1013 then b else ta (1100 + i - 1000)) else if 1100 + i < 1200 then adK (1100 + i - 1100) else if 1100 + i < 1300 then adV (1100 + i - 1200) else fm) (fun i => if 1200 + i < 1000 then s.heap.size + (1200 + i) else if 1200 + i < 1100 then (if 1200 + i = 1013 then b else ta (1200 + i - 1000)) else if 1200 + i < 1200 then adK (1200 + i - 1100) else if 1200 + i < 1300 then adV (1200 + i - 1200) else fm) (fun q => s.heap.size ≤ q) s s.heap
      have k1 : ∀ i, i < wSN → (if 1100 + i < 1000 then s.heap.size + (1100 + i) else if 1100 + i < 1100 then (if 1100 + i = 1013 then b else ta (1100 + i - 1000)) else if 1100 + i < 1200 then adK (1100 + i - 1100) else if 1100 + i < 1300 then adV (1100 + i - 1200) else fm) = adK i := fun i hi => by
        have hi : i < 10 := hi
        rw [if_neg (by omega), if_neg (by omega), if_pos (by omega), show 1100 + i - 1100 = i by omega]
      have k2 : ∀ i, i < wSN → (if 1200 + i < 1000 then s.heap.size + (1200 + i) else if 1200 + i < 1100 then (if 1200 + i = 1013 then b else ta (1200 + i - 1000)) else if 1200 + i < 1200 then adK (1200 + i - 1100) else if 1200 + i < 1300 then adV (1200 + i - 1200) else fm) = adV i := fun i hi => by
        have hi : i < 10 := hi
        rw [if_neg (by omega), if_neg (by omega), if_neg (by omega), if_pos (by omega), show 1200 + i - 1200 = i by omega]
      refine ⟨fun i hi => ?_, fun i j hi hj e => ?_⟩
      · dsimp only
        rw [k1 i hi, k2 i hi]
        exact hS.1 i hi
      · dsimp only at e
        rw [k1 i hi, k1 j hj] at e
        exact hS.2 i j hi hj e
    · show va_Z "jdk/internal/util/Preconditions" "SIOOBE_FORMATTER" "Ljava/util/function/BiFunction;" (.ref (if 1300 < 1000 then s.heap.size + 1300 else if 1300 < 1100 then (if 1300 = 1013 then b else ta (1300 - 1000)) else if 1300 < 1200 then adK (1300 - 1100) else if 1300 < 1300 then adV (1300 - 1200) else fm)) (fun q => s.heap.size ≤ q) s s.heap ∨ _
      rw [if_neg (by omega), if_neg (by omega), if_neg (by omega), if_neg (by omega)]
      exact hfm
  · intro i T hT
    show (tabL.map (fun T => (T.length, fun j => nI (T.getD j 0))) ++ [(L, xs)])[i]? = some (T.length, fun j => nI (T.getD j 0))
    rw [List.getElem?_append_left (by rw [List.length_map]; exact (List.getElem?_eq_some_iff.mp hT).1), List.getElem?_map, hT]
    rfl

