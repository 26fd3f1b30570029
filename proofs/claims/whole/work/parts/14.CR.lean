/-! CodeRow: written by wip/gen/cr.py -/
/-- the heap is as it was but for n places from p on -/
def wOff (h h' : wH) (p n : Nat) : Prop := ∀ k, (k < p ∨ p + n ≤ k) → h'[k]? = h[k]?
theorem wOff.rf {h : wH} {p n : Nat} : wOff h h p n := fun _ _ => rfl
theorem wOff.tr {h h' h'' : wH} {p n : Nat} (a : wOff h h' p n) (b : wOff h' h'' p n) : wOff h h'' p n := fun k hk => (b k hk).trans (a k hk)
/-- a row of numbers t at place p -/
def hCR (h : wH) (p : Nat) (t : List Nat) : Prop := ∃ f : Nat → Int32, h[p]? = some (.inr (0, [.ref (p + 1), .int (nI t.length)])) ∧ h[p + 1]? = some (.inl (0, 60, .inl f)) ∧ t.length ≤ 60 ∧ ∀ i x, t[i]? = some x → f i = nI x
theorem hCR.off {h h' : wH} {p q n : Nat} {t : List Nat} (a : hCR h p t) (b : wOff h h' q n) (hd : p + 2 ≤ q ∨ q + n ≤ p) : hCR h' p t := by
  obtain ⟨f, h1, h2, h3⟩ := a
  exact ⟨f, by rw [b p (by omega)]; exact h1, by rw [b (p + 1) (by omega)]; exact h2, h3⟩
theorem upd_at {f : Nat → Int32} {t : List Nat} {x : Nat} (hf : ∀ i y, t[i]? = some y → f i = nI y) : ∀ i y, (t ++ [x])[i]? = some y → upd f t.length (nI x) i = nI y := by
  intro i y hy
  by_cases hi : i < t.length
  · rw [List.getElem?_append_left hi] at hy
    rw [pk_un (by omega)]
    exact hf i y hy
  · rw [List.getElem?_append_right (by omega)] at hy
    have h9 : i - t.length < 1 := (List.getElem?_eq_some_iff.mp hy).1
    have h8 : i = t.length := by omega
    subst h8
    rw [Nat.sub_self] at hy
    cases hy
    exact pk_us
section CR
variable {X : wX}
set_option maxHeartbeats 4000000 in
set_option maxRecDepth 100000 in
theorem m_CR_append {h : wH} {p x : Nat} {t : List Nat} (hc : hCR h p t) : PM X M_CR_append 0 0 0 [.ref p, .int (nI x)] h (fun r h' => r = some (.int (nI (if t.length < 60 then 1 else 0))) ∧ hCR h' p (if t.length < 60 then t ++ [x] else t) ∧ wOff h h' p 2) := by
  obtain ⟨f, hp, ha, hl, hf⟩ := hc
  refine PM.of rfl rfl ?_
  show WP _ _ _ _ _ 0 0 0 [some (.ref p), some (.int (nI x))] [] h
  refine w_aload_n d_CR_append_0 rfl rfl ?_
  refine w_get d_CR_append_1 f_CR_15 hp rfl ?_
  refine w_bipush (v := nI 60) d_CR_append_4 (by decide) ?_
  refine w_icmp_lt (tgt := 11) d_CR_append_6 rfl (fun c6 => ?_) (fun c6 => ?_)
  · have c6 : t.length < 60 := (nI_ltI (by omega) (by omega)).mp c6
    refine w_aload_n d_CR_append_11 rfl rfl ?_
    refine w_get d_CR_append_12 f_CR_9 hp rfl ?_
    refine w_aload_n d_CR_append_15 rfl rfl ?_
    refine w_get d_CR_append_16 f_CR_15 hp rfl ?_
    refine w_iload_n d_CR_append_19 rfl ?_
    refine w_iast d_CR_append_20 ha (vp_in_nI c6 (by omega)) ?_
    refine w_nm (fun h1 e1 => ?_)
    have hp_1 := wS_ne e1 (by omega) hp
    have ha_1 := wS_eq e1 ha
    refine w_aload_n d_CR_append_21 rfl rfl ?_
    refine w_dup d_CR_append_22 rfl ?_
    refine w_get d_CR_append_23 f_CR_15 hp_1 rfl ?_
    refine w_iconst (v := nI 1) d_CR_append_26 (by decide) ?_
    refine w_iadd d_CR_append_27 ?_
    refine w_topi (nI_add _ _) ?_
    refine w_put d_CR_append_28 f_CR_15 rfl hp_1 rfl rfl rfl ?_
    refine w_nm (fun h2 e2 => ?_)
    have hp_2 := wS_eq e2 hp_1
    have ha_2 := wS_ne e2 (by omega) ha_1
    refine w_iconst (v := nI 1) d_CR_append_31 (by decide) ?_
    refine w_zret d_CR_append_32 rfl (by first | exact Or.inl rfl | exact Or.inr rfl) ?_
    rw [if_pos c6, if_pos c6]
    refine ⟨rfl, ⟨_, ?_, ha_2, by rw [List.length_append, List.length_singleton]; omega, ?_⟩, fun k hk => ?_⟩
    · rw [List.length_append, List.length_singleton]
      exact hp_2
    · rw [nI_clamp (by omega)]
      exact upd_at hf
    · rw [wS_off e2 (by omega), wS_off e1 (by omega)]
  · have c6 : ¬ t.length < 60 := fun z => c6 ((nI_ltI (by omega) (by omega)).mpr z)
    refine w_iconst (v := nI 0) d_CR_append_9 (by decide) ?_
    refine w_zret d_CR_append_10 rfl (by first | exact Or.inl rfl | exact Or.inr rfl) ?_
    rw [if_neg c6, if_neg c6]
    exact ⟨rfl, ⟨f, hp, ha, hl, hf⟩, wOff.rf⟩
set_option maxHeartbeats 4000000 in
set_option maxRecDepth 100000 in
theorem m_CR_clear {h : wH} {p : Nat} {t : List Nat} (hc : hCR h p t) : PM X M_CR_clear 0 0 0 [.ref p] h (fun r h' => r = none ∧ hCR h' p [] ∧ wOff h h' p 2) := by
  obtain ⟨f, hp, ha, hl, hf⟩ := hc
  refine PM.of rfl rfl ?_
  show WP _ _ _ _ _ 0 0 0 [some (.ref p)] [] h
  refine w_aload_n d_CR_clear_0 rfl rfl ?_
  refine w_iconst (v := nI 0) d_CR_clear_1 (by decide) ?_
  refine w_put d_CR_clear_2 f_CR_15 rfl hp rfl rfl rfl ?_
  refine w_nm (fun h1 e1 => ?_)
  have hp_1 := wS_eq e1 hp
  have ha_1 := wS_ne e1 (by omega) ha
  refine w_vret d_CR_clear_5 rfl ?_
  refine ⟨rfl, ⟨f, hp_1, ha_1, Nat.zero_le _, fun i x hx => by simp at hx⟩, fun k hk => ?_⟩
  rw [wS_off e1 (by omega)]
set_option maxHeartbeats 4000000 in
set_option maxRecDepth 100000 in
theorem m_CR_codeAt {h : wH} {p : Nat} {t : List Nat} {k : Int32} (hc : hCR h p t) : PM X M_CR_codeAt 0 0 0 [.ref p, .int k] h (fun r h' => r = some (.int (if k < 0 then -1 else match t[k.toNatClampNeg]? with | some x => nI x | none => -1)) ∧ h' = h) := by
  obtain ⟨f, hp, ha, hl, hf⟩ := hc
  refine PM.of rfl rfl ?_
  show WP _ _ _ _ _ 0 0 0 [some (.ref p), some (.int k)] [] h
  refine w_iload_n d_CR_codeAt_0 rfl ?_
  refine w_if_lt (tgt := 21) d_CR_codeAt_1 rfl (fun c1 => ?_) (fun c1 => ?_)
  · refine w_iconst (v := -1) d_CR_codeAt_21 (by decide) ?_
    refine w_iret d_CR_codeAt_22 rfl ?_
    first
      | (rw [if_pos c1]; exact ⟨rfl, rfl⟩)
      | (rw [if_neg c1, nI_clamp hj, List.getElem?_eq_none c9]; exact ⟨rfl, rfl⟩)
      | (rw [if_neg c1, nI_clamp hj, List.getElem?_eq_getElem c9, hf j _ (List.getElem?_eq_getElem c9)]; exact ⟨rfl, rfl⟩)
  · obtain ⟨j, hj, rfl⟩ := nI_of c1
    refine w_iload_n d_CR_codeAt_4 rfl ?_
    refine w_aload_n d_CR_codeAt_5 rfl rfl ?_
    refine w_get d_CR_codeAt_6 f_CR_15 hp rfl ?_
    refine w_icmp_ge (tgt := 21) d_CR_codeAt_9 rfl (fun c9 => ?_) (fun c9 => ?_)
    · have c9 : t.length ≤ j := (nI_leI (by omega) (by omega)).mp c9
      refine w_iconst (v := -1) d_CR_codeAt_21 (by decide) ?_
      refine w_iret d_CR_codeAt_22 rfl ?_
      first
        | (rw [if_pos c1]; exact ⟨rfl, rfl⟩)
        | (rw [if_neg c1, nI_clamp hj, List.getElem?_eq_none c9]; exact ⟨rfl, rfl⟩)
        | (rw [if_neg c1, nI_clamp hj, List.getElem?_eq_getElem c9, hf j _ (List.getElem?_eq_getElem c9)]; exact ⟨rfl, rfl⟩)
    · have c9 : j < t.length := Nat.not_le.mp (fun z => c9 ((nI_leI (by omega) (by omega)).mpr z))
      refine w_aload_n d_CR_codeAt_12 rfl rfl ?_
      refine w_get d_CR_codeAt_13 f_CR_9 hp rfl ?_
      refine w_iload_n d_CR_codeAt_16 rfl ?_
      refine w_iald d_CR_codeAt_17 ha (vp_in_nI (by omega) (by omega)) ?_
      refine w_goto (tgt := 22) d_CR_codeAt_18 rfl ?_
      refine w_iret d_CR_codeAt_22 rfl ?_
      first
        | (rw [if_pos c1]; exact ⟨rfl, rfl⟩)
        | (rw [if_neg c1, nI_clamp hj, List.getElem?_eq_none c9]; exact ⟨rfl, rfl⟩)
        | (rw [if_neg c1, nI_clamp hj, List.getElem?_eq_getElem c9, hf j _ (List.getElem?_eq_getElem c9)]; exact ⟨rfl, rfl⟩)
set_option maxHeartbeats 4000000 in
set_option maxRecDepth 100000 in
theorem m_CR_become {h : wH} {p q : Nat} {t t0 : List Nat} (hc0 : hCR h p t0) (hc : hCR h q t) (hd : p + 2 ≤ q ∨ q + 2 ≤ p) : PM X M_CR_become 1 0 0 [.ref p, .ref q] h (fun r h' => r = none ∧ hCR h' p t ∧ wOff h h' p 2) := by
  obtain ⟨f, hp, ha, hl, hf⟩ := hc0
  obtain ⟨g, gp, ga, gl, gf⟩ := hc
  refine PM.of rfl rfl ?_
  show WP _ _ _ _ _ 0 0 0 [some (.ref p), some (.ref q)] [] h
  refine w_aload_n d_CR_become_0 rfl rfl ?_
  refine w_get d_CR_become_1 f_CR_9 gp rfl ?_
  refine w_iconst (v := nI 0) d_CR_become_4 (by decide) ?_
  refine w_aload_n d_CR_become_5 rfl rfl ?_
  refine w_get d_CR_become_6 f_CR_9 hp rfl ?_
  refine w_iconst (v := nI 0) d_CR_become_9 (by decide) ?_
  refine w_aload_n d_CR_become_10 rfl rfl ?_
  refine w_get d_CR_become_11 f_CR_15 gp rfl ?_
  refine w_copyI d_CR_become_14 a_CR_19 aCopy1 aCopy2 aCopy3 ga ha (nI_pos (by omega)) (nI_pos (by omega)) (nI_pos (by omega)) (by rw [nI_clamp (by omega), nI_clamp (by omega)]; omega) (by rw [nI_clamp (by omega), nI_clamp (by omega)]; omega) (by decide) (by decide) (by decide) ?_
  refine w_nm (fun h1 e1 => ?_)
  have hp_1 := wS_ne e1 (by omega) hp
  have ha_1 := wS_eq e1 ha
  have gp_1 := wS_ne e1 (by omega) gp
  have ga_1 := wS_ne e1 (by omega) ga
  refine w_aload_n d_CR_become_17 rfl rfl ?_
  refine w_aload_n d_CR_become_18 rfl rfl ?_
  refine w_get d_CR_become_19 f_CR_15 gp_1 rfl ?_
  refine w_put d_CR_become_22 f_CR_15 rfl hp_1 rfl rfl rfl ?_
  refine w_nm (fun h2 e2 => ?_)
  have hp_2 := wS_eq e2 hp_1
  have ha_2 := wS_ne e2 (by omega) ha_1
  have gp_2 := wS_ne e2 (by omega) gp_1
  have ga_2 := wS_ne e2 (by omega) ga_1
  refine w_vret d_CR_become_25 rfl ?_
  refine ⟨rfl, ⟨_, hp_2, ha_2, gl, fun i x hx => ?_⟩, fun k hk => ?_⟩
  · rw [nI_clamp (by omega), nI_clamp (by omega), pk_cpy_in (Nat.zero_le _) (by have := (List.getElem?_eq_some_iff.mp hx).1; omega), Nat.zero_add, Nat.sub_zero]
    exact gf i x hx
  · rw [wS_off e2 (by omega), wS_off e1 (by omega)]
end CR
