/-! the two readings of a text are one, second part: written by wip/gen/eq2.py -/
theorem rStep_end {tk : List (Nat × Int32)} {nx d : Nat} {B : Nat → Br} (h : tk.length ≤ nx) : rStep tk B d nx = none := by
  have h0 := kd_no h
  by_cases hd : d = 0
  · subst hd
    exact rStep_no (by omega)
  · exact rStep_0 h0 hd
theorem lxS_nil {t : List Nat} {k : Nat} (h : lxS t k = some []) (hk : k < t.length) : t[t.length - 1]? = some 32 := by
  have go : ∀ n k, t.length - k ≤ n → k < t.length → lxS t k = some [] → t[t.length - 1]? = some 32 := by
    intro n
    induction n with
    | zero => intro k h1 h2 _; omega
    | succ n ih =>
      intro k h1 h2 h3
      obtain ⟨c, hc⟩ := t_at h2
      rw [lxS_at hc] at h3
      cases hx : lxAt t k c with
      | none => rw [hx] at h3; cases h3
      | some y =>
        obtain ⟨q, w⟩ := y
        cases q with
        | none =>
          have hc32 := lxAt_none hx
          subst hc32
          rw [lxAt_32] at hx
          cases hx
          rw [lxAt_32] at h3
          dsimp only at h3
          by_cases hl : k + 1 < t.length
          · exact ih (k + 1) (by omega) hl h3
          · rw [show t.length - 1 = k by omega]; exact hc
        | some q =>
          rw [hx] at h3
          dsimp only at h3
          cases hs : lxS t (k + w) with
          | none => rw [hs] at h3; cases h3
          | some L => rw [hs] at h3; cases h3
  exact go _ k (Nat.le_refl _) hk h
theorem loop_eq {t : List Nat} (ht : ∀ x ∈ t, x < 1114112) (hl : ¬ t[t.length - 1]? = some 32) {tk : List (Nat × Int32)} : ∀ (n m : Nat) (B : Nat → Br) (d k nx : Nat), t.length - k < n → tk.length - nx ≤ m → pInv t B d k → lxS t k = some (tk.drop nx) → pLoop t n B d k = rAll tk m B d nx
  | 0, m, B, d, k, nx, h1, h2, hi, h => by omega
  | n + 1, m, B, d, k, nx, h1, h2, hi, h => by
    rw [pLoop_S]
    have hst := oR_step (B := B) (d := d) ht h
    cases m with
    | zero =>
      have h0 := rStep_end (B := B) (d := d) (tk := tk) (nx := nx) (by omega)
      rw [h0] at hst
      rcases hst with z | ⟨B', d', k', n', V, z1, z2, z3⟩
      · rw [z.1]; rfl
      · cases z2
    | succ m =>
      unfold rAll
      by_cases hn : nx < tk.length
      · rw [if_pos hn]
        rcases hst with z | ⟨B', d', k', n', V, z1, z2, z3, z4, z5⟩
        · rw [z.1, z.2]; rfl
        · rw [z1, z2]
          have hv := pItem_inv ht hi z1
          have hkl := hv.1.2.2.2.1
          unfold RX
          dsimp only
          by_cases hd : d' = 0
          · rw [if_pos hd, if_pos hd]
            by_cases hk : k' = t.length
            · have hnn : n' = tk.length := by
                rw [lxS_end (List.getElem?_eq_none (by omega))] at z3
                have := congrArg List.length (Option.some.inj z3)
                rw [List.length_drop] at this
                have e0 : ([] : List (Nat × Int32)).length = 0 := rfl
                omega
              rw [if_pos hk, if_pos hnn]
            · have hnn : ¬ n' = tk.length := fun z => hl (by
                rw [z, List.drop_length] at z3
                exact lxS_nil z3 (by omega))
              rw [if_neg hk, if_neg hnn]
          · rw [if_neg hd, if_neg hd]
            exact loop_eq ht hl n m B' d' k' n' (by omega) (by omega) hv.1 z3
      · rw [if_neg hn]
        have h0 := rStep_end (B := B) (d := d) (tk := tk) (nx := nx) (by omega)
        rw [h0] at hst
        rcases hst with z | ⟨B', d', k', n', V, z1, z2, z3⟩
        · rw [z.1]; rfl
        · cases z2
/-! a text that is read is cut -/
theorem is_at {t : List Nat} {p w : Nat} {q : Nat × Int32} (h : pX t p = some (some q, w)) (h2 : (lxS t (p + w)).isSome = true) : (lxS t p).isSome = true := by
  unfold pX at h
  cases hc : t[p]? with
  | none => rw [hc] at h; cases h
  | some c =>
    rw [hc] at h
    rw [lxS_at hc]
    have h : lxAt t p c = some (some q, w) := h
    rw [h]
    dsimp only
    rw [Option.isSome_map]
    exact h2
theorem is_rc {t : List Nat} {p a k1 : Nat} (h : rc t p = some (a, k1)) (h2 : (lxS t k1).isSome = true) : (lxS t p).isSome = true := by
  unfold rc at h
  cases hc : t[p]? with
  | none => rw [hc] at h; cases h
  | some c =>
    rw [hc] at h
    dsimp only at h
    split at h
    · rename_i v w hx
      cases h
      exact is_at (q := (1, v)) (w := w) (by rw [pX_at hc]; exact hx) h2
    · cases h
theorem is_sp {t : List Nat} {k : Nat} (h : (lxS t (pSp t k)).isSome = true) : (lxS t k).isSome = true := by rw [← lxS_sp]; exact h
theorem is_1 {t : List Nat} {p c : Nat} (h : t[p]? = some c) (hc : c = 45 ∨ c = 125) (h2 : (lxS t (p + 1)).isSome = true) : (lxS t p).isSome = true := by
  rcases hc with z | z
  · subst z
    exact is_at (q := (9, nI 45)) (w := 1) (by rw [pX_at h]; rfl) h2
  · subst z
    exact is_at (q := (8, nI 125)) (w := 1) (by rw [pX_at h]; rfl) h2
theorem rJoin_nx {B B' : Nat → Br} {d d' k k' : Nat} {I V : List Nat × List Nat} {z : Bool} (h : rJoin B d k I z = some (B', d', k', V)) : k' = k ∧ d' = d := by
  cases d with
  | zero => cases h; exact ⟨rfl, rfl⟩
  | succ j =>
    rw [rJoin_S] at h
    split at h
    · cases h; exact ⟨rfl, rfl⟩
    · cases h
theorem rEnd_nx {B B' : Nat → Br} {d d' k k' : Nat} {V : List Nat × List Nat} (h : rEnd B d k = some (B', d', k', V)) : k' = k + 1 := by
  cases d with
  | zero => cases h
  | succ j =>
    by_cases ho : (B j).2.1 = true
    · by_cases hs : (B j).1.2 = []
      · rw [rEnd_T1 ho hs] at h
        exact (rJoin_nx h).1
      · rw [rEnd_T0 ho hs] at h
        cases h
    · have ho : (B j).2.1 = false := by cases hz : (B j).2.1 with | true => exact absurd hz ho | false => rfl
      rw [rEnd_F ho] at h
      exact (rJoin_nx h).1
theorem pStF_nx {B B' : Nat → Br} {d d' k k' : Nat} {l : List Nat} {V : List Nat × List Nat} (h : pStF B d k l = some (B', d', k', V)) : k' = k + 1 ∧ d' = d := by
  unfold pStF at h
  split at h
  · exact rJoin_nx h
  · exact rJoin_nx h
  · exact rJoin_nx h
  · cases h
theorem is_rd {t : List Nat} : ∀ (f k : Nat) (l : List Nat) (k' : Nat) (l' : List Nat), pRd t f k l = some (k', l') → (lxS t k').isSome = true → (lxS t k).isSome = true
  | 0, k, l, k', l', h, h2 => by cases h; exact h2
  | f + 1, k, l, k', l', h, h2 => by
    rw [pRd_S] at h
    split at h
    · cases h; exact h2
    · cases hc : rc t k with
      | none => rw [hc] at h; cases h
      | some q =>
        obtain ⟨a, k1⟩ := q
        rw [hc] at h
        exact is_rc hc (is_sp (is_rd f (pSp t k1) (l ++ [a]) k' l' h h2))
theorem is_item {t : List Nat} {B B' : Nat → Br} {d d' k k' : Nat} {V : List Nat × List Nat} (h : pItem t B d k = some (B', d', k', V)) (h2 : (lxS t k').isSome = true) : (lxS t k).isSome = true := by
  refine is_sp ?_
  unfold pItem at h
  split at h
  · rename_i q w hx
    have hx0 := hx
    unfold pX at hx
    cases hc : t[pSp t k]? with
    | none => rw [hc] at hx; cases hx
    | some c =>
    rw [hc] at hx
    obtain ⟨k1, k2, k3, k4, k5, k6, k7, k8, k9⟩ := KC_at hx
    generalize pSp t k = p at *
    unfold pKind at h
    split at h
    · cases h
    split at h
    · unfold pChr at h
      cases hc1 : rc t p with
      | none => rw [hc1] at h; cases h
      | some q1 =>
        obtain ⟨a, kk⟩ := q1
        rw [hc1] at h
        dsimp only at h
        split at h
        · rename_i h45
          cases hc2 : rc t (pSp t (pSp t kk + 1)) with
          | none => rw [hc2] at h; cases h
          | some q2 =>
            obtain ⟨b, kk2⟩ := q2
            rw [hc2] at h
            dsimp only at h
            split at h
            · rw [(rJoin_nx h).1] at h2
              exact is_rc hc1 (is_sp (is_1 h45.1 (Or.inl rfl) (is_sp (is_rc hc2 h2))))
            · cases h
        · rw [(rJoin_nx h).1] at h2
          exact is_rc hc1 h2
    split at h
    · rw [(rJoin_nx h).1] at h2
      exact is_at hx0 h2
    split at h
    · rename_i hq
      unfold pOpen rOpen at h
      split at h
      · cases h
        rcases hq with z | z
        · have a1 := k7 z
          rw [if_neg a1.2] at h2
          have hw := k6 (by omega)
          subst hw
          exact is_at hx0 h2
        · have a1 := k8 z
          rw [if_pos a1.2.1] at h2
          have hw := a1.2.2
          subst hw
          exact is_at hx0 h2
      · cases h
    split at h
    · rw [rEnd_nx h] at h2
      have hw := k6 (by omega)
      subst hw
      exact is_at hx0 h2
    split at h
    · have hw := k6 (by omega)
      subst hw
      refine is_at hx0 (is_sp ?_)
      unfold pStr at h
      cases hr : pRd t 3 (pSp t (p + 1)) [] with
      | none => rw [hr] at h; cases h
      | some ql =>
        obtain ⟨kk, l⟩ := ql
        rw [hr] at h
        dsimp only at h
        split at h
        · rename_i h125
          rw [(pStF_nx h).1] at h2
          exact is_rd _ _ _ _ _ hr (is_1 h125 (Or.inr rfl) h2)
        · cases h
    split at h
    · have hw := k6 (by omega)
      subst hw
      refine is_at hx0 ?_
      cases d with
      | zero => cases h
      | succ j =>
        rw [pSgn_S] at h
        split at h
        · rw [(rJoin_nx h).1] at h2
          exact h2
        · split at h
          · cases h
            exact is_sp h2
          · cases h
    · cases h
  · cases h
theorem lxProp_w2 {o : Bool} {l : List Nat} {w0 w : Nat} {x : Option (Nat × Int32)} (h : lxProp o l w0 = some (x, w)) : w = w0 := by
  unfold lxProp at h
  split at h
  · cases h
  · cases h; rfl
/-- the last sign of a value is no space -/
theorem last_item {t : List Nat} {B B' : Nat → Br} {d k k' : Nat} {V : List Nat × List Nat} (h : pItem t B d k = some (B', 0, k', V)) : ¬ t[k' - 1]? = some 32 := by
  unfold pItem at h
  split at h
  · rename_i q w hx
    have hx0 := hx
    unfold pX at hx
    cases hc : t[pSp t k]? with
    | none => rw [hc] at hx; cases hx
    | some c =>
    rw [hc] at hx
    have hx : lxAt t (pSp t k) c = some (some q, w) := hx
    have hkc := KC_at hx
    obtain ⟨k1, k2, k3, k4, k5, k6, k7, k8, k9⟩ := hkc
    generalize pSp t k = p at *
    have hpl := lx_lt hc
    unfold pKind at h
    split at h
    · cases h
    rename_i hd0
    split at h
    · exfalso
      have hd : d ≠ 0 := fun z => hd0 ⟨z, by omega⟩
      unfold pChr at h
      cases hc1 : rc t p with
      | none => rw [hc1] at h; cases h
      | some q1 =>
        obtain ⟨a, kk⟩ := q1
        rw [hc1] at h
        dsimp only at h
        split at h
        · cases hc2 : rc t (pSp t (pSp t kk + 1)) with
          | none => rw [hc2] at h; cases h
          | some q2 =>
            obtain ⟨b, kk2⟩ := q2
            rw [hc2] at h
            dsimp only at h
            split at h
            · exact hd (rJoin_nx h).2.symm
            · cases h
        · exact hd (rJoin_nx h).2.symm
    split at h
    · rename_i hq
      rw [(rJoin_nx h).1]
      have hcc := k9.mpr (by omega)
      rcases hcc with z | ⟨z, zz⟩
      · subst z
        have hx : lxOpen t p = some (some q, w) := hx
        unfold lxOpen at hx
        split at hx
        · cases hx; dsimp only at hq; omega
        split at hx
        · have hge := nmR_ge t (m := p) (by omega) (t.length - (p + (if decide (t[p + 2]? = some 94) = true then 3 else 2))) (p + (if decide (t[p + 2]? = some 94) = true then 3 else 2)) [] (by omega)
          generalize nmR t (t.length - (p + (if decide (t[p + 2]? = some 94) = true then 3 else 2))) (p + (if decide (t[p + 2]? = some 94) = true then 3 else 2)) [] = q0 at *
          unfold lxOpen2 at hx
          split at hx
          · rename_i h58
            rw [lxProp_w2 hx, show p + (q0.1 + 2 - p) - 1 = q0.1 + 1 by omega, h58.2]
            decide
          · cases hx
        · cases hx; dsimp only at hq; omega
      · subst z
        rw [lxAt_92, if_pos zz] at hx
        unfold lxName at hx
        have hp1 : p + 1 < t.length := by rcases zz with z | z <;> exact lx_lt z
        have hge := nmR_ge t (m := p) (by omega) (t.length - (p + 3)) (p + 3) [] (by omega)
        generalize nmR t (t.length - (p + 3)) (p + 3) [] = q0 at *
        unfold lxName2 at hx
        split at hx
        · rename_i h125
          rw [lxProp_w2 hx, show p + (q0.1 + 1 - p) - 1 = q0.1 by omega, h125.2]
          decide
        · cases hx
    split at h
    · exfalso
      unfold pOpen rOpen at h
      split at h <;> cases h
    split at h
    · rename_i hq
      rw [rEnd_nx h, Nat.add_sub_cancel, hc, k1.mpr hq]
      decide
    have hdn : d ≠ 0 := fun z => hd0 ⟨z, by omega⟩
    split at h
    · exfalso
      unfold pStr at h
      cases hr : pRd t 3 (pSp t (p + 1)) [] with
      | none => rw [hr] at h; cases h
      | some ql =>
        obtain ⟨kk, l⟩ := ql
        rw [hr] at h
        dsimp only at h
        split at h
        · exact hdn (pStF_nx h).2.symm
        · cases h
    split at h
    · exfalso
      cases d with
      | zero => cases h
      | succ j =>
        rw [pSgn_S] at h
        split at h
        · exact hdn (rJoin_nx h).2.symm
        · split at h
          · cases h
          · cases h
    · cases h
  · cases h
theorem loop_is {t : List Nat} : ∀ (n : Nat) (B : Nat → Br) (d k : Nat) (V : List Nat × List Nat), pLoop t n B d k = some V → (lxS t k).isSome = true ∧ ¬ t[t.length - 1]? = some 32
  | 0, B, d, k, V, h => by cases h
  | n + 1, B, d, k, V, h => by
    rw [pLoop_S] at h
    cases hx : pItem t B d k with
    | none => rw [hx] at h; cases h
    | some y =>
      obtain ⟨B', d', k', V'⟩ := y
      rw [hx] at h
      unfold RX at h
      dsimp only at h
      by_cases hd : d' = 0
      · subst hd
        rw [if_pos rfl] at h
        split at h
        · rename_i hk
          refine ⟨is_item hx ?_, ?_⟩
          · rw [lxS_end (List.getElem?_eq_none (by omega))]; rfl
          · have := last_item hx
            rw [hk] at this
            exact this
        · cases h
      · rw [if_neg hd] at h
        have := loop_is n B' d' k' V h
        exact ⟨is_item hx this.1, this.2⟩
theorem lxAll_len (t : List Nat) : ∀ (f k : Nat) (tk tk' : List (Nat × Int32)), lxAll t f k tk = some tk' → tk'.length ≤ tk.length + f
  | 0, k, tk, tk', h => by cases h; exact Nat.le_refl _
  | f + 1, k, tk, tk', h => by
    unfold lxAll at h
    cases hc : t[k]? with
    | none => rw [hc] at h; cases h; omega
    | some c =>
      rw [hc] at h
      dsimp only at h
      cases hx : lxAt t k c with
      | none => rw [hx] at h; cases h
      | some y =>
        obtain ⟨q, w⟩ := y
        rw [hx] at h
        cases q with
        | none =>
          have := lxAll_len t f (k + w) tk tk' h
          omega
        | some q =>
          have := lxAll_len t f (k + w) (tk ++ [q]) tk' h
          rw [List.length_append, List.length_singleton] at this
          omega
/-- class and reference read a text alike -/
theorem val_eq {t : List Nat} (ht : ∀ x ∈ t, x < 1114112) (h60 : t.length ≤ 60) (B : Nat → Br) : pVal t B = vT B t := by
  unfold pVal vT cut
  by_cases h0 : t[0]? = some 32
  · rw [if_pos h0, if_pos (Or.inl h0)]
  rw [if_neg h0]
  by_cases hl : t[t.length - 1]? = some 32
  · rw [if_pos (Or.inr hl)]
    cases hv : pLoop t 61 B 0 0 with
    | none => rfl
    | some V => exact absurd hl (loop_is _ _ _ _ _ hv).2
  · rw [if_neg (by rintro (z | z); exact h0 z; exact hl z)]
    have e : lxAll t t.length 0 [] = lxS t 0 := rfl
    rw [e]
    cases hs : lxS t 0 with
    | none =>
      cases hv : pLoop t 61 B 0 0 with
      | none => rfl
      | some V =>
        have := (loop_is _ _ _ _ _ hv).1
        rw [hs] at this
        cases this
    | some tk =>
      have htl : tk.length ≤ 60 := by
        have h1 := lxAll_len t t.length 0 [] tk (by rw [e]; exact hs)
        have e0 : ([] : List (Nat × Int32)).length = 0 := rfl
        omega
      exact loop_eq ht hl 61 60 B 0 0 0 (by omega) (by omega) (pInv_0 t B) (by rw [hs]; rfl)

