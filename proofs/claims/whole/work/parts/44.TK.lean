/-! what the tokens of a text keep to -/
def tokOk (q : Nat × Int32) : Prop := 1 ≤ q.1 ∧ q.1 ≤ 10 ∧ (q.1 = 1 → ∃ v, v < 1114112 ∧ q.2 = nI v) ∧ (q.1 = 2 ∨ q.1 = 3 → ∃ n, n < 10 ∧ q.2 = nI n)
theorem tokOk_c {v : Nat} (h : v < 1114112) : tokOk (1, nI v) := ⟨Nat.le_refl 1, (by decide : 1 ≤ 10), fun _ => ⟨v, h, rfl⟩, fun z => by rcases z with z | z <;> cases z⟩
theorem tokOk_s {k : Nat} {x : Int32} (h : 4 ≤ k) (h2 : k ≤ 10) : tokOk (k, x) := ⟨by show 1 ≤ k; omega, h2, fun z => by have : k = 1 := z; omega, fun z => by have : k = 2 ∨ k = 3 := z; omega⟩
theorem hxI_d {x : Int32} (h : ¬ hxI x = -1) : ∃ d, d < 16 ∧ hxI x = nI d := by
  have rg : ∀ lo hi : Nat, lo ≤ hi → hi < 2 ^ 20 → nI lo ≤ x → x ≤ nI hi → ∃ a, lo ≤ a ∧ a ≤ hi ∧ x = nI a := by
    intro lo hi h1 h2 h3 h4
    obtain ⟨a, ha, rfl⟩ := nI_of (x := x) (fun z => by
      have h5 : nI lo < 0 := Int32.lt_of_le_of_lt h3 z
      exact nI_pos (by omega) h5)
    exact ⟨a, (nI_leI (by omega) ha).mp h3, (nI_leI ha (by omega)).mp h4, rfl⟩
  unfold hxI at h ⊢
  split at h
  · rename_i hc
    rw [if_pos hc]
    obtain ⟨a, h1, h2, rfl⟩ := rg 48 57 (by decide) (by decide) hc.1 hc.2
    exact ⟨a - 48, by omega, pk_sub h1⟩
  · rename_i hn
    rw [if_neg hn]
    split at h
    · rename_i hc
      rw [if_pos hc]
      obtain ⟨a, h1, h2, rfl⟩ := rg 97 102 (by decide) (by decide) hc.1 hc.2
      refine ⟨a - 97 + 10, by omega, ?_⟩
      rw [show nI a - 97 = nI (a - 97) from pk_sub h1]
      exact nI_add _ 10
    · rename_i hn2
      rw [if_neg hn2]
      split at h
      · rename_i hc
        rw [if_pos hc]
        obtain ⟨a, h1, h2, rfl⟩ := rg 65 70 (by decide) (by decide) hc.1 hc.2
        refine ⟨a - 65 + 10, by omega, ?_⟩
        rw [show nI a - 65 = nI (a - 65) from pk_sub h1]
        exact nI_add _ 10
      · exact absurd rfl h
theorem hxI_none : hxI (-1) = -1 := by decide
theorem hxR_all (t : List Nat) (f : Nat) : ∀ (r k m : Nat), hxR t f r k = m → ∀ j, k ≤ j → j < m → ¬ hxI (cA t (f + j)) = -1
  | 0, k, m, h => by
    intro j h1 h2
    unfold hxR at h
    omega
  | r + 1, k, m, h => by
    intro j h1 h2
    unfold hxR at h
    split at h
    · omega
    · rename_i hn
      by_cases hj : j = k
      · subst hj; exact hn
      · exact hxR_all t f r (k + 1) m h j (by omega) h2
theorem hvI_d (t : List Nat) (f : Nat) : ∀ m, (∀ j, j < m → ¬ hxI (cA t (f + j)) = -1) → ∃ v, v < 16 ^ m ∧ hvI t f m = nI v
  | 0, _ => ⟨0, by decide, rfl⟩
  | m + 1, h => by
    obtain ⟨v, h1, h2⟩ := hvI_d t f m (fun j hj => h j (by omega))
    obtain ⟨d, h3, h4⟩ := hxI_d (h m (by omega))
    refine ⟨v * 16 + d, by rw [Nat.pow_succ]; omega, ?_⟩
    unfold hvI
    rw [h2, h4, pk_mul, nI_add]
theorem cA_lt {t : List Nat} {i : Nat} (h : ¬ hxI (cA t i) = -1) : i < t.length := by
  refine Decidable.byContradiction fun z => h ?_
  unfold cA
  rw [List.getElem?_eq_none (by omega)]
  exact hxI_none
theorem nmR_len (t : List Nat) : ∀ (r k : Nat) (l : List Nat), k ≤ t.length → (nmR t r k l).2.length + k ≤ l.length + (nmR t r k l).1
  | 0, k, l, h => by unfold nmR; dsimp only; omega
  | r + 1, k, l, h => by
    unfold nmR
    cases hx : t[k]? with
    | none => dsimp only; omega
    | some x =>
      dsimp only
      have hk := (List.getElem?_eq_some_iff.mp hx).1
      split
      · have := nmR_len t r (k + 1) (l ++ [x ||| 32]) hk
        rw [List.length_append, List.length_singleton] at this
        omega
      · split
        · have := nmR_len t r (k + 1) l hk
          omega
        · dsimp only; omega
theorem nmN_some {l : List Nat} (h : ¬ nmN l = -1) : ∃ i, i < 10 ∧ nmN l = nI i ∧ l = nmL.getD i [] := by
  unfold nmN at h ⊢
  iterate 10 (split at h; (· rename_i hc; rw [if_pos hc]; exact ⟨_, by decide, rfl, hc⟩); rename_i hc; rw [if_neg hc]; clear hc)
  exact absurd rfl h
theorem tab_nm : ∀ i, i < 10 → (tabL.getD i []).length + 2 ≤ 2 * ((nmL.getD i []).length + 4) := by decide
theorem lxProp_ok {o : Bool} {l : List Nat} {w0 w : Nat} {x : Option (Nat × Int32)} (h : lxProp o l w0 = some (x, w)) (hw : l.length + 4 ≤ w0) : ∀ q, x = some q → tokOk q ∧ wt q ≤ 2 * w := by
  unfold lxProp at h
  split at h
  · cases h
  · rename_i hn
    cases h
    intro q hq
    cases hq
    obtain ⟨i, h1, h2, h3⟩ := nmN_some hn
    have h4 := tab_nm i h1
    rw [← h3] at h4
    have h5 : (rTab (nI i)).length = (tabL.getD i []).length := by unfold rTab; rw [nI_clamp (by omega)]
    rw [h2]
    cases o with
    | false => exact ⟨⟨(by decide : 1 ≤ 2), (by decide : 2 ≤ 10), (fun z => by have z9 : (2 : Nat) = 1 := z; omega), fun _ => ⟨i, h1, rfl⟩⟩, by show (rTab (nI i)).length ≤ _; omega⟩
    | true => exact ⟨⟨(by decide : 1 ≤ 3), (by decide : 3 ≤ 10), (fun z => by have z9 : (3 : Nat) = 1 := z; omega), fun _ => ⟨i, h1, rfl⟩⟩, by show (rTab (nI i)).length + 2 ≤ _; omega⟩
theorem lx_lt {t : List Nat} {i c : Nat} (h : t[i]? = some c) : i < t.length := (List.getElem?_eq_some_iff.mp h).1
/-- a token and its width -/
theorem lxAt_ok {t : List Nat} (ht : ∀ x ∈ t, x < 1114112) {pos c w : Nat} {x : Option (Nat × Int32)} (hc : t[pos]? = some c) (h : lxAt t pos c = some (x, w)) : pos + w ≤ t.length ∧ ∀ q, x = some q → tokOk q ∧ wt q ≤ 2 * w := by
  have hp := lx_lt hc
  have hcl := ht c (List.mem_of_getElem? hc)
  have sg : ∀ (k : Nat) (v : Int32) (w : Nat), 4 ≤ k → k ≤ 10 → 1 ≤ w → ∀ q, some (k, v) = some q → tokOk q ∧ wt q ≤ 2 * w := by
    intro k v w h1 h2 h3 q hq
    cases hq
    refine ⟨tokOk_s h1 h2, ?_⟩
    unfold wt
    dsimp only
    split
    · omega
    · rw [if_neg (by omega), if_neg (by omega)]; omega
  have ch : ∀ (v w : Nat), v < 1114112 → 1 ≤ w → ∀ q, some (1, nI v) = some q → tokOk q ∧ wt q ≤ 2 * w := by
    intro v w h1 h2 q hq
    cases hq
    refine ⟨tokOk_c h1, ?_⟩
    unfold wt
    dsimp only
    rw [if_pos (Or.inl rfl)]
    omega
  unfold lxAt at h
  split at h
  · cases h; exact ⟨by omega, fun q hq => by cases hq⟩
  split at h
  · cases h; exact ⟨by omega, sg _ _ _ (by decide) (by decide) (by decide)⟩
  split at h
  · cases h; exact ⟨by omega, sg _ _ _ (by decide) (by decide) (by decide)⟩
  split at h
  · unfold lxOpen at h
    split at h
    · rename_i h1
      have := lx_lt h1
      cases h; exact ⟨by omega, sg _ _ _ (by decide) (by decide) (by decide)⟩
    split at h
    · rename_i h1
      have := lx_lt h1
      have hw := lxOpen2_w h
      have hfr : pos + (if decide (t[pos + 2]? = some 94) = true then 3 else 2) ≤ t.length := by
        split
        · rename_i h2
          have := lx_lt (of_decide_eq_true h2)
          omega
        · omega
      have hnl := nmR_len t (t.length - (pos + (if decide (t[pos + 2]? = some 94) = true then 3 else 2))) (pos + (if decide (t[pos + 2]? = some 94) = true then 3 else 2)) [] hfr
      have hge : 2 ≤ (if decide (t[pos + 2]? = some 94) = true then 3 else 2) := by split <;> decide
      generalize (if decide (t[pos + 2]? = some 94) = true then 3 else 2) = m at *
      generalize nmR t (t.length - (pos + m)) (pos + m) [] = q0 at *
      rw [List.length_nil] at hnl
      unfold lxOpen2 at h
      split at h
      · rename_i h2
        have := lx_lt h2.2
        exact ⟨by omega, lxProp_ok h (by omega)⟩
      · cases h
    · cases h; exact ⟨by omega, sg _ _ _ (by decide) (by decide) (by decide)⟩
  split at h
  · split at h
    · unfold lxName lxName2 at h
      split at h
      · rename_i h2
        have h3 := lx_lt h2.1
        have h4 := lx_lt h2.2
        have hnl := nmR_len t (t.length - (pos + 3)) (pos + 3) [] (by omega)
        rw [List.length_nil] at hnl
        have hw := lxProp_w h
        exact ⟨by omega, lxProp_ok h (by omega)⟩
      · cases h
    · unfold lxEsc at h
      split at h
      · cases h
      · rename_i c1 h1
        have h2 := lx_lt h1
        have h3 := ht c1 (List.mem_of_getElem? h1)
        split at h
        · cases h; exact ⟨by omega, ch 10 _ (by decide) (by decide)⟩
        split at h
        · cases h; exact ⟨by omega, ch 9 _ (by decide) (by decide)⟩
        split at h
        · unfold lxFour at h
          split at h
          · rename_i h4
            have ha := hxR_all t (pos + 2) 4 0 4 h4
            obtain ⟨v, hv, he⟩ := hvI_d t (pos + 2) 4 (fun j hj => ha j (by omega) hj)
            have := cA_lt (ha 3 (by decide) (by decide))
            rw [he] at h
            cases h
            exact ⟨by omega, ch v _ (by omega) (by decide)⟩
          · cases h
        split at h
        · unfold lxBr lxBr2 at h
          split at h
          · rename_i h4
            have := lx_lt h4.2.2
            split at h
            · rename_i h5
              obtain ⟨v, hv, he⟩ := nI_of (x := hvI t (pos + 3) (hxR t (pos + 3) 6 0)) (Int32.not_lt.mpr h5.1)
              rw [he] at h h5
              cases h
              exact ⟨by omega, ch v _ ((nI_ltI hv (by decide)).mp h5.2) (by omega)⟩
            · cases h
          · cases h
        split at h
        · cases h
        · cases h; exact ⟨by omega, ch c1 _ h3 (by decide)⟩
  split at h
  · cases h; exact ⟨by omega, sg _ _ _ (by decide) (by decide) (by decide)⟩
  split at h
  · cases h
  split at h
  · cases h; exact ⟨by omega, sg _ _ _ (by decide) (by decide) (by decide)⟩
  split at h
  · cases h; exact ⟨by omega, sg _ _ _ (by decide) (by decide) (by decide)⟩
  · cases h; exact ⟨by omega, ch c _ hcl (by decide)⟩
theorem lxAll_ok {t : List Nat} (ht : ∀ x ∈ t, x < 1114112) : ∀ (f pos : Nat) (tk tk' : List (Nat × Int32)), lxAll t f pos tk = some tk' → pos ≤ t.length → tkOk tk → (tk.map wt).sum ≤ 2 * pos → tkOk tk' ∧ (tk'.map wt).sum ≤ 2 * t.length
  | 0, pos, tk, tk', h, hp, h1, h2 => by
    unfold lxAll at h
    cases h
    exact ⟨h1, by omega⟩
  | f + 1, pos, tk, tk', h, hp, h1, h2 => by
    unfold lxAll at h
    cases hc : t[pos]? with
    | none => rw [hc] at h; cases h; exact ⟨h1, by omega⟩
    | some c =>
      rw [hc] at h
      dsimp only at h
      cases hx : lxAt t pos c with
      | none => rw [hx] at h; cases h
      | some q =>
        obtain ⟨q, w⟩ := q
        obtain ⟨k1, k2⟩ := lxAt_ok ht hc hx
        rw [hx] at h
        cases q with
        | none => exact lxAll_ok ht f (pos + w) tk tk' h k1 h1 (by omega)
        | some q =>
          obtain ⟨k3, k4⟩ := k2 q rfl
          refine lxAll_ok ht f (pos + w) (tk ++ [q]) tk' h k1 (fun y hy => ?_) ?_
          · rcases List.mem_append.mp hy with z | z
            · exact h1 y z
            · rw [List.mem_singleton] at z
              exact z ▸ k3
          · rw [List.map_append, List.sum_append]
            simp only [List.map_cons, List.map_nil, List.sum_cons, List.sum_nil]
            omega
theorem cut_ok {t : List Nat} {tk : List (Nat × Int32)} (ht : ∀ x ∈ t, x < 1114112) (h60 : t.length ≤ 60) (h : cut t = some tk) : tkOk tk ∧ wtR tk 0 ≤ 120 := by
  unfold cut at h
  split at h
  · cases h
  · have := lxAll_ok ht t.length 0 [] tk h (Nat.zero_le _) (fun y hy => by cases hy) (Nat.zero_le _)
    refine ⟨this.1, ?_⟩
    unfold wtR
    rw [List.drop_zero]
    omega
