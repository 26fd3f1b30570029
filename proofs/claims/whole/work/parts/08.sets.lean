/-! sets, further: the list of a predicate's edges; an edge that comes; rising lists of keys -/
theorem eOdd_succ (n : Nat) : eOdd (n + 1) = !eOdd n := by
  unfold eOdd
  rcases Nat.mod_two_eq_zero_or_one n with z | z
  · rw [z, show (n + 1) % 2 = 1 by omega]
    rfl
  · rw [z, show (n + 1) % 2 = 0 by omega]
    rfl
def ePrev (P : Nat → Bool) : Nat → Bool
  | 0 => false
  | k + 1 => P k
/-- where P changes, below n -/
def eCh (P : Nat → Bool) : Nat → List Nat
  | 0 => []
  | n + 1 => if P n = ePrev P n then eCh P n else eCh P n ++ [n]
theorem eCh_lt (P : Nat → Bool) : ∀ (n x : Nat), x ∈ eCh P n → x < n
  | 0, x, h => by cases h
  | n + 1, x, h => by
    unfold eCh at h
    split at h
    · have := eCh_lt P n x h
      omega
    · rcases List.mem_append.mp h with h | h
      · have := eCh_lt P n x h
        omega
      · rw [List.mem_singleton] at h
        omega
theorem eCh_asc (P : Nat → Bool) : ∀ n, eAsc (eCh P n)
  | 0 => List.Pairwise.nil
  | n + 1 => by
    unfold eCh
    split
    · exact eCh_asc P n
    · refine eAsc_append.mpr ⟨eCh_asc P n, List.pairwise_singleton _ _, fun a ha b hb => ?_⟩
      rw [List.mem_singleton] at hb
      rw [hb]
      exact eCh_lt P n a ha
theorem eCh_mem (P : Nat → Bool) : ∀ n, (∀ c, c < n → eMem (eCh P n) c = P c) ∧ eOdd (eCh P n).length = ePrev P n
  | 0 => ⟨fun c h => by omega, rfl⟩
  | n + 1 => by
    obtain ⟨h1, h2⟩ := eCh_mem P n
    unfold eCh
    by_cases hp : P n = ePrev P n
    · rw [if_pos hp]
      refine ⟨fun c hc => ?_, ?_⟩
      · by_cases hcn : c < n
        · exact h1 c hcn
        · have hc2 : c = n := by omega
          subst hc2
          unfold eMem
          rw [eCnt_high (fun e he => Nat.le_of_lt (eCh_lt P c e he)), hp, ← h2]
          rfl
      · rw [h2, ← hp]
        rfl
    · rw [if_neg hp]
      have h3 : eOdd (eCh P n ++ [n]).length = P n := by
        rw [List.length_append, List.length_singleton, eOdd_succ, h2]
        cases hx : P n <;> cases hy : ePrev P n <;> simp_all
      refine ⟨fun c hc => ?_, h3⟩
      by_cases hcn : c < n
      · rw [eMem_snoc hcn]
        exact h1 c hcn
      · have hc2 : c = n := by omega
        subst hc2
        unfold eMem
        rw [eCnt_high (fun e he => ?_)]
        · exact h3
        · rcases List.mem_append.mp he with h | h
          · exact Nat.le_of_lt (eCh_lt P c e h)
          · rw [List.mem_singleton] at h
            omega
abbrev eALL : Nat := 1114112
/-- a set's edges: rising, none beyond the end -/
def eOk (E : List Nat) : Prop := eAsc E ∧ ∀ x ∈ E, x ≤ 1114112
theorem eMem_end {E : List Nat} (h : eOk E) {c : Nat} (hc : 1114112 ≤ c) : eMem E c = eOdd E.length := by
  unfold eMem
  rw [eCnt_high (fun e he => Nat.le_trans (h.2 e he) hc)]
  rfl
/-- two sets put together -/
def eCmb (how : Nat) (L R : List Nat) : List Nat := eCh (fun c => eDec how (eMem L c) (eMem R c)) 1114113
theorem eCmb_ok (how : Nat) (L R : List Nat) : eOk (eCmb how L R) := ⟨eCh_asc _ _, fun x hx => by have := eCh_lt _ _ x hx; omega⟩
theorem eCmb_mem {how : Nat} {L R : List Nat} (hL : eOk L) (hR : eOk R) (c : Nat) : eMem (eCmb how L R) c = eDec how (eMem L c) (eMem R c) := by
  obtain ⟨h1, h2⟩ := eCh_mem (fun c => eDec how (eMem L c) (eMem R c)) 1114113
  by_cases hc : c < 1114113
  · exact h1 c hc
  · rw [eMem_end (eCmb_ok how L R) (by omega)]
    show eOdd (eCh _ 1114113).length = _
    rw [h2]
    show eDec how (eMem L 1114112) (eMem R 1114112) = _
    rw [eMem_end hL (Nat.le_refl _), eMem_end hR (Nat.le_refl _), eMem_end hL (by omega), eMem_end hR (by omega)]
theorem eCmb_eq {how : Nat} {L R E : List Nat} (hL : eOk L) (hR : eOk R) (hE : eAsc E) (h : ∀ c, eMem E c = eDec how (eMem L c) (eMem R c)) : E = eCmb how L R :=
  eCanon E _ hE (eCmb_ok how L R).1 (fun c => by rw [h, eCmb_mem hL hR])
/-- an edge comes -/
theorem eTog_ok {E : List Nat} {x : Nat} (hE : eAsc E) (hx : ∀ y ∈ E, y ≤ x) : eAsc (eTog E x) ∧ (∀ y ∈ eTog E x, y ≤ x) ∧ ∀ c, eMem (eTog E x) c = (eMem E c != decide (x ≤ c)) := by
  unfold eTog
  by_cases h : E.getLast? = some x
  · rw [if_pos h]
    obtain ⟨l, hl⟩ : ∃ l, E = l ++ [x] := by
      rcases List.eq_nil_or_concat E with rfl | ⟨l, b, rfl⟩
      · simp at h
      · rw [List.concat_eq_append] at h ⊢
        rw [List.getLast?_concat] at h
        cases h
        exact ⟨l, rfl⟩
    subst hl
    rw [List.dropLast_concat]
    obtain ⟨h1, h2, h3⟩ := eAsc_append.mp hE
    refine ⟨h1, fun y hy => hx y (List.mem_append_left _ hy), fun c => ?_⟩
    unfold eMem
    rw [eCnt_append, eCnt_cons, eCnt_nil]
    by_cases hc : x ≤ c
    · rw [if_pos hc, decide_eq_true hc]
      rcases Nat.mod_two_eq_zero_or_one (eCnt l c) with z | z
      · rw [z, show (eCnt l c + (1 + 0)) % 2 = 1 by omega]
        rfl
      · rw [z, show (eCnt l c + (1 + 0)) % 2 = 0 by omega]
        rfl
    · rw [if_neg hc, decide_eq_false hc]
      simp
  · rw [if_neg h]
    have hlt : ∀ y ∈ E, y < x := by
      intro y hy
      rcases Nat.lt_or_ge y x with z | z
      · exact z
      · exfalso
        have hyx : y = x := by have := hx y hy; omega
        subst hyx
        rcases List.eq_nil_or_concat E with rfl | ⟨l, b, rfl⟩
        · cases hy
        · rw [List.concat_eq_append] at h hE hy hx
          rw [List.getLast?_concat] at h
          rcases List.mem_append.mp hy with hy | hy
          · have h4 := (eAsc_append.mp hE).2.2 y hy b (List.mem_singleton.mpr rfl)
            have := hx b (List.mem_append_right _ (List.mem_singleton.mpr rfl))
            omega
          · rw [List.mem_singleton] at hy
            exact h (by rw [hy])
    refine ⟨eAsc_append.mpr ⟨hE, List.pairwise_singleton _ _, fun a ha b hb => by rw [List.mem_singleton] at hb; rw [hb]; exact hlt a ha⟩, fun y hy => ?_, fun c => ?_⟩
    · rcases List.mem_append.mp hy with hy | hy
      · exact hx y hy
      · rw [List.mem_singleton] at hy
        omega
    · unfold eMem
      rw [eCnt_append, eCnt_cons, eCnt_nil]
      by_cases hc : x ≤ c
      · rw [if_pos hc, decide_eq_true hc]
        rcases Nat.mod_two_eq_zero_or_one (eCnt E c) with z | z
        · rw [z, show (eCnt E c + (1 + 0)) % 2 = 1 by omega]
          rfl
        · rw [z, show (eCnt E c + (1 + 0)) % 2 = 0 by omega]
          rfl
      · rw [if_neg hc, decide_eq_false hc]
        simp
theorem eTog_len (E : List Nat) (x : Nat) : (eTog E x).length ≤ E.length + 1 := by
  unfold eTog
  split
  · rw [List.length_dropLast]
    omega
  · rw [List.length_append, List.length_singleton]
    exact Nat.le_refl _
/-- behind what is below, an edge is laid -/
theorem eTog_new {E : List Nat} {x : Nat} (h : ∀ y ∈ E, y < x) : eTog E x = E ++ [x] := by
  unfold eTog
  rw [if_neg]
  intro z
  have := h x (List.mem_of_getLast? z)
  omega
theorem eInv_lt {how : Nat} {L R : List Nat} {i j i' j' x : Nat} {ins : Bool} {acc : List Nat} (hL : eAsc L) (hR : eAsc R) (inv : eInv how L R i j ins acc)
    (hi : (i' = i ∧ ∀ z, L[i]? = some z → x < z) ∨ (i' = i + 1 ∧ L[i]? = some x)) (hj : (j' = j ∧ ∀ z, R[j]? = some z → x < z) ∨ (j' = j + 1 ∧ R[j]? = some x)) (hne : i' ≠ i ∨ j' ≠ j) : ∀ a ∈ acc, a < x := by
  obtain ⟨q1, q2, q3, q4, q5, q6, q7, q8, q9, q10⟩ := inv
  intro a ha
  rcases q9 a ha with h | h
  · obtain ⟨k, h1, h2⟩ := eMem_take h
    rcases hi with ⟨e1, -⟩ | ⟨-, hx⟩
    · rcases hj with ⟨e2, -⟩ | ⟨-, hx⟩
      · rcases hne with h | h <;> contradiction
      · exact q7 k a j x h1 h2 (Nat.le_refl _) hx
    · exact eAsc_lt hL h1 h2 hx
  · obtain ⟨k, h1, h2⟩ := eMem_take h
    rcases hj with ⟨e1, -⟩ | ⟨-, hx⟩
    · rcases hi with ⟨e2, -⟩ | ⟨-, hx⟩
      · rcases hne with h | h <;> contradiction
      · exact q8 k a i x h1 h2 (Nat.le_refl _) hx
    · exact eAsc_lt hR h1 h2 hx
/-! keys -/
theorem sCanon : ∀ (S T : List Nat), eAsc S → eAsc T → (∀ k, k ∈ S ↔ k ∈ T) → S = T
  | [], [], _, _, _ => rfl
  | [], t :: T, _, _, h => by have := (h t).mpr List.mem_cons_self; cases this
  | s :: S, [], _, _, h => by have := (h s).mp List.mem_cons_self; cases this
  | s :: S, t :: T, hS, hT, h => by
    obtain ⟨hS1, hS2⟩ := eAsc_cons.mp hS
    obtain ⟨hT1, hT2⟩ := eAsc_cons.mp hT
    have hst : s = t := by
      rcases List.mem_cons.mp ((h s).mp List.mem_cons_self) with e | e
      · exact e
      · rcases List.mem_cons.mp ((h t).mpr List.mem_cons_self) with f | f
        · exact f.symm
        · have := hT1 s e
          have := hS1 t f
          omega
    subst hst
    congr 1
    refine sCanon S T hS2 hT2 (fun k => ⟨fun hk => ?_, fun hk => ?_⟩)
    · rcases List.mem_cons.mp ((h k).mp (List.mem_cons_of_mem _ hk)) with e | e
      · have := hS1 k hk
        omega
      · exact e
    · rcases List.mem_cons.mp ((h k).mpr (List.mem_cons_of_mem _ hk)) with e | e
      · have := hT1 k hk
        omega
      · exact e
def sIns (x : Nat) : List Nat → List Nat
  | [] => [x]
  | y :: r => if x < y then x :: y :: r else if x = y then y :: r else y :: sIns x r
theorem sIns_mem {x z : Nat} : ∀ {l : List Nat}, z ∈ sIns x l ↔ z = x ∨ z ∈ l
  | [] => by simp [sIns]
  | y :: r => by
    unfold sIns
    split
    · simp
    · split
      · rename_i h
        subst h
        simp
      · rw [List.mem_cons, sIns_mem, List.mem_cons]
        constructor
        · rintro (h | h | h)
          · exact Or.inr (Or.inl h)
          · exact Or.inl h
          · exact Or.inr (Or.inr h)
        · rintro (h | h | h)
          · exact Or.inr (Or.inl h)
          · exact Or.inl h
          · exact Or.inr (Or.inr h)
theorem sIns_asc {x : Nat} : ∀ {l : List Nat}, eAsc l → eAsc (sIns x l)
  | [], _ => List.pairwise_singleton _ _
  | y :: r, h => by
    obtain ⟨h1, h2⟩ := eAsc_cons.mp h
    unfold sIns
    split
    · rename_i hlt
      refine eAsc_cons.mpr ⟨fun z hz => ?_, h⟩
      rcases List.mem_cons.mp hz with rfl | hz
      · exact hlt
      · exact Nat.lt_trans hlt (h1 z hz)
    · split
      · exact h
      · refine eAsc_cons.mpr ⟨fun z hz => ?_, sIns_asc h2⟩
        rcases sIns_mem.mp hz with rfl | hz
        · omega
        · exact h1 z hz
def sCmb (how : Nat) (S T : List Nat) : List Nat := ((S ++ T).filter (fun k => eDec how (decide (k ∈ S)) (decide (k ∈ T)))).foldr sIns []
theorem sFold_mem {z : Nat} : ∀ {l : List Nat}, z ∈ l.foldr sIns [] ↔ z ∈ l
  | [] => Iff.rfl
  | x :: l => by rw [List.foldr_cons, sIns_mem, sFold_mem, List.mem_cons]
theorem sFold_asc : ∀ (l : List Nat), eAsc (l.foldr sIns [])
  | [] => List.Pairwise.nil
  | x :: l => sIns_asc (sFold_asc l)
theorem sCmb_asc (how : Nat) (S T : List Nat) : eAsc (sCmb how S T) := sFold_asc _
theorem sCmb_mem {how : Nat} {S T : List Nat} {k : Nat} : k ∈ sCmb how S T ↔ eDec how (decide (k ∈ S)) (decide (k ∈ T)) = true := by
  unfold sCmb
  rw [sFold_mem, List.mem_filter, List.mem_append]
  constructor
  · exact fun h => h.2
  · intro h
    refine ⟨?_, h⟩
    by_cases h1 : k ∈ S
    · exact Or.inl h1
    · by_cases h2 : k ∈ T
      · exact Or.inr h2
      · rw [decide_eq_false h1, decide_eq_false h2, eDec_ff] at h
        cases h
theorem sCmb_eq {how : Nat} {S T E : List Nat} (hE : eAsc E) (h : ∀ k, k ∈ E ↔ eDec how (decide (k ∈ S)) (decide (k ∈ T)) = true) : E = sCmb how S T :=
  sCanon E _ hE (sCmb_asc how S T) (fun k => by rw [h, sCmb_mem])
/-- where two rising lists of keys are merged -/
def sInv (how : Nat) (L R : List Nat) (i j : Nat) (acc : List Nat) : Prop :=
  i ≤ L.length ∧ j ≤ R.length ∧ eAsc acc ∧ acc.length ≤ i + j ∧
  (∀ a y b z, a < i → L[a]? = some y → j ≤ b → R[b]? = some z → y < z) ∧ (∀ a y b z, a < j → R[a]? = some y → i ≤ b → L[b]? = some z → y < z) ∧
  ∀ k, k ∈ acc ↔ eDec how (decide (k ∈ L.take i)) (decide (k ∈ R.take j)) = true
theorem sInv_0 (how : Nat) (L R : List Nat) : sInv how L R 0 0 [] := by
  refine ⟨Nat.zero_le _, Nat.zero_le _, List.Pairwise.nil, Nat.le_refl _, fun a y b z h => (by omega), fun a y b z h => (by omega), fun k => ?_⟩
  rw [List.take_zero, List.take_zero]
  simp [eDec_ff]
theorem sInv_step {how : Nat} {L R : List Nat} {i j i' j' x : Nat} {acc : List Nat} (hL : eAsc L) (hR : eAsc R) (inv : sInv how L R i j acc)
    (hi : (i' = i ∧ ∀ z, L[i]? = some z → x < z) ∨ (i' = i + 1 ∧ L[i]? = some x)) (hj : (j' = j ∧ ∀ z, R[j]? = some z → x < z) ∨ (j' = j + 1 ∧ R[j]? = some x)) (hne : i' ≠ i ∨ j' ≠ j) :
    sInv how L R i' j' (if eDec how (decide (i' ≠ i)) (decide (j' ≠ j)) = true then acc ++ [x] else acc) := by
  obtain ⟨q1, q2, q3, q6, q7, q8, q10⟩ := inv
  have hi1 : i' ≤ L.length := by
    rcases hi with ⟨rfl, -⟩ | ⟨rfl, hx⟩
    · exact q1
    · exact (List.getElem?_eq_some_iff.mp hx).1
  have hj1 : j' ≤ R.length := by
    rcases hj with ⟨rfl, -⟩ | ⟨rfl, hx⟩
    · exact q2
    · exact (List.getElem?_eq_some_iff.mp hx).1
  have bL : ∀ a y, a < i → L[a]? = some y → y < x := by
    intro a y ha hy
    rcases hi with ⟨e1, hmin⟩ | ⟨rfl, hx⟩
    · rcases hj with ⟨e2, -⟩ | ⟨rfl, hx⟩
      · rcases hne with h | h <;> contradiction
      · exact q7 a y j x ha hy (Nat.le_refl _) hx
    · exact eAsc_lt hL ha hy hx
  have bR : ∀ a y, a < j → R[a]? = some y → y < x := by
    intro a y ha hy
    rcases hj with ⟨e1, hmin⟩ | ⟨rfl, hx⟩
    · rcases hi with ⟨e2, -⟩ | ⟨rfl, hx⟩
      · rcases hne with h | h <;> contradiction
      · exact q8 a y i x ha hy (Nat.le_refl _) hx
    · exact eAsc_lt hR ha hy hx
  have bL' : ∀ a y, a < i' → L[a]? = some y → y ≤ x := by
    intro a y ha hy
    rcases hi with ⟨rfl, -⟩ | ⟨rfl, hx⟩
    · exact Nat.le_of_lt (bL a y ha hy)
    · by_cases hai : a = i
      · subst hai
        rw [hx] at hy
        cases hy
        exact Nat.le_refl _
      · exact Nat.le_of_lt (bL a y (by omega) hy)
  have bR' : ∀ a y, a < j' → R[a]? = some y → y ≤ x := by
    intro a y ha hy
    rcases hj with ⟨rfl, -⟩ | ⟨rfl, hx⟩
    · exact Nat.le_of_lt (bR a y ha hy)
    · by_cases hai : a = j
      · subst hai
        rw [hx] at hy
        cases hy
        exact Nat.le_refl _
      · exact Nat.le_of_lt (bR a y (by omega) hy)
  have aL : ∀ b z, i' ≤ b → L[b]? = some z → x < z := by
    intro b z hb hz
    rcases hi with ⟨rfl, hmin⟩ | ⟨rfl, hx⟩
    · by_cases hbi : b = i'
      · subst hbi
        exact hmin z hz
      · obtain ⟨h1, -⟩ := List.getElem?_eq_some_iff.mp hz
        have hlt : i' < L.length := by omega
        have h2 := hmin _ (List.getElem?_eq_getElem hlt)
        exact Nat.lt_trans h2 (eAsc_lt hL (by omega) (List.getElem?_eq_getElem hlt) hz)
    · exact eAsc_lt hL (by omega) hx hz
  have aR : ∀ b z, j' ≤ b → R[b]? = some z → x < z := by
    intro b z hb hz
    rcases hj with ⟨rfl, hmin⟩ | ⟨rfl, hx⟩
    · by_cases hbi : b = j'
      · subst hbi
        exact hmin z hz
      · obtain ⟨h1, -⟩ := List.getElem?_eq_some_iff.mp hz
        have hlt : j' < R.length := by omega
        have h2 := hmin _ (List.getElem?_eq_getElem hlt)
        exact Nat.lt_trans h2 (eAsc_lt hR (by omega) (List.getElem?_eq_getElem hlt) hz)
    · exact eAsc_lt hR (by omega) hx hz
  have tL : ∀ a ∈ L.take i, a < x := fun a ha => by obtain ⟨k, h1, h2⟩ := eMem_take ha; exact bL k a h1 h2
  have tR : ∀ a ∈ R.take j, a < x := fun a ha => by obtain ⟨k, h1, h2⟩ := eMem_take ha; exact bR k a h1 h2
  have accLt : ∀ a ∈ acc, a < x := by
    intro a ha
    have h := (q10 a).mp ha
    by_cases h1 : a ∈ L.take i
    · exact tL a h1
    · by_cases h2 : a ∈ R.take j
      · exact tR a h2
      · rw [decide_eq_false h1, decide_eq_false h2, eDec_ff] at h
        cases h
  have hcnt : i + j + 1 ≤ i' + j' := by
    rcases hi with ⟨rfl, -⟩ | ⟨rfl, -⟩ <;> rcases hj with ⟨rfl, -⟩ | ⟨rfl, -⟩
    · rcases hne with h | h <;> contradiction
    · omega
    · omega
    · omega
  -- membership in the longer beginnings
  have mL : ∀ k, decide (k ∈ L.take i') = (decide (k ∈ L.take i) || (decide (k = x) && decide (i' ≠ i))) := by
    intro k
    rcases hi with ⟨rfl, -⟩ | ⟨rfl, hx⟩
    · simp
    · rw [eTake_succ hx]
      simp [List.mem_append]
  have mR : ∀ k, decide (k ∈ R.take j') = (decide (k ∈ R.take j) || (decide (k = x) && decide (j' ≠ j))) := by
    intro k
    rcases hj with ⟨rfl, -⟩ | ⟨rfl, hx⟩
    · simp
    · rw [eTake_succ hx]
      simp [List.mem_append]
  have key : ∀ k, eDec how (decide (k ∈ L.take i')) (decide (k ∈ R.take j')) = true ↔ (k ∈ acc ∨ (k = x ∧ eDec how (decide (i' ≠ i)) (decide (j' ≠ j)) = true)) := by
    intro k
    rw [mL k, mR k]
    by_cases hk : k = x
    · subst hk
      have n1 : k ∉ L.take i := fun z => Nat.lt_irrefl _ (tL k z)
      have n2 : k ∉ R.take j := fun z => Nat.lt_irrefl _ (tR k z)
      have n3 : k ∉ acc := fun z => Nat.lt_irrefl _ (accLt k z)
      rw [decide_eq_false n1, decide_eq_false n2, decide_eq_true (rfl : k = k)]
      simp only [Bool.false_or, Bool.true_and]
      exact ⟨fun z => Or.inr ⟨by first | exact rfl | trivial, z⟩, fun z => z.elim (fun z => absurd z n3) (fun z => z.2)⟩
    · rw [decide_eq_false hk]
      simp only [Bool.false_and, Bool.or_false]
      rw [← q10 k]
      exact ⟨fun z => Or.inl z, fun z => z.elim id (fun z => absurd z.1 hk)⟩
  refine ⟨hi1, hj1, ?_, ?_, fun a y b z ha hy hb hz => Nat.lt_of_le_of_lt (bL' a y ha hy) (aR b z hb hz), fun a y b z ha hy hb hz => Nat.lt_of_le_of_lt (bR' a y ha hy) (aL b z hb hz), fun k => ?_⟩
  · split
    · refine eAsc_append.mpr ⟨q3, List.pairwise_singleton _ _, fun a ha b hb => ?_⟩
      rw [List.mem_singleton] at hb
      rw [hb]
      exact accLt a ha
    · exact q3
  · split
    · rw [List.length_append, List.length_singleton]
      omega
    · omega
  · rw [key k]
    split
    · rename_i hd
      rw [List.mem_append, List.mem_singleton]
      exact ⟨fun z => z.elim Or.inl (fun z => Or.inr ⟨z, hd⟩), fun z => z.elim Or.inl (fun z => Or.inr z.1)⟩
    · rename_i hd
      exact ⟨fun z => Or.inl z, fun z => z.elim id (fun z => absurd z.2 hd)⟩
theorem sInv_end {how : Nat} {L R : List Nat} {acc : List Nat} (inv : sInv how L R L.length R.length acc) : acc = sCmb how L R := by
  obtain ⟨q1, q2, q3, q6, q7, q8, q10⟩ := inv
  rw [List.take_length, List.take_length] at q10
  exact sCmb_eq q3 q10
theorem w_eq {X : wX} {M : wM} {R : Room} {B : Nat} {E : wN} {nc u nc' u' pc : Nat} {pl : List (Option Value)} {st st' : List Value} {h : wH} (e : (nc, u, st) = (nc', u', st')) (k : WP X M R B E nc' u' pc pl st' h) : WP X M R B E nc u pc pl st h := by
  cases e
  exact k
