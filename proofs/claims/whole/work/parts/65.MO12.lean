/-! the reference's property: written by wip/gen/mo12.py -/
/-- a property begins at k -/
abbrev pA (t : List Nat) (k : Nat) : Prop := (t[k]? = some 91 ∧ t[k + 1]? = some 58) ∨ (t[k]? = some 92 ∧ (t[k + 1]? = some 112 ∨ t[k + 1]? = some 80))
/-- the token at p -/
def pX (t : List Nat) (p : Nat) : lxT := match t[p]? with
  | none => none
  | some c => lxAt t p c
def pTab (q : Nat × Int32) : List Nat := if q.1 = 3 then eCmb 3 (rTab q.2) [0, 1114112] else rTab q.2
theorem pTab_t (n : Int32) : pTab (3, n) = eCmb 3 (rTab n) [0, 1114112] := if_pos rfl
theorem pTab_f (n : Int32) : pTab (2, n) = rTab n := if_neg (show ¬ (2 : Nat) = 3 by decide)
def wX9 (l : List Nat) : Nat := if l.length ≤ 9 then wdN l else 0
theorem lt_or : ∀ y, y < 123 → (65 ≤ y → y ≤ 90 → y ||| 32 = y + 32) ∧ (97 ≤ y → y ||| 32 = y) := by decide
theorem lt_32 {y : Nat} (hy : y < 1114112) (h : ltI (nI y) = true) : (y ≤ 90 → y ||| 32 = y + 32) ∧ (¬ y ≤ 90 → y ||| 32 = y) ∧ 1 ≤ y ||| 32 ∧ y ||| 32 < 128 := by
  have h1 := of_decide_eq_true h
  have h2 : (97 ≤ y ∧ y ≤ 122) ∨ (65 ≤ y ∧ y ≤ 90) := by
    rcases h1 with z | z
    · exact Or.inl ⟨(nI_leI (a := 97) (b := y) (by decide) (by omega)).mp z.1, (nI_leI (a := y) (b := 122) (by omega) (by decide)).mp z.2⟩
    · exact Or.inr ⟨(nI_leI (a := 65) (b := y) (by decide) (by omega)).mp z.1, (nI_leI (a := y) (b := 90) (by omega) (by decide)).mp z.2⟩
  have h3 := lt_or y (by omega)
  refine ⟨fun z => h3.1 (by omega) z, fun z => h3.2 (by omega), ?_, ?_⟩
  · rcases h2 with z | z
    · rw [h3.2 z.1]; omega
    · rw [h3.1 z.1 z.2]; omega
  · rcases h2 with z | z
    · rw [h3.2 z.1]; omega
    · rw [h3.1 z.1 z.2]; omega
theorem nmN_9 {l : List Nat} (h : ¬ l.length ≤ 9) : nmN l = -1 := by
  refine Decidable.byContradiction fun z => ?_
  obtain ⟨i, h1, h2, h3⟩ := nmN_some z
  exact h (by rw [h3]; exact (nmL_len i h1).2)
theorem lxProp_no {o : Bool} {l : List Nat} {w : Nat} (h : nmN l = -1) : lxProp o l w = none := by unfold lxProp; rw [if_pos h]
theorem lxProp_yes {o : Bool} {l : List Nat} {w : Nat} (h : ¬ nmN l = -1) : lxProp o l w = some (some (if o = true then 3 else 2, nmN l), w) := by unfold lxProp; rw [if_neg h]
/-- what property does -/
def ppQ (x : lxT) (t : List Nat) (p : Nat) (dp wr fi : Int32) (EE SS : Nat → List Nat) (h : wH) : Option Value → wH → Prop := fun z h' => z = none ∧ (∀ j, j ≠ 57 → (j < 59 ∨ 63 ≤ j) → h'[j]? = h[j]?) ∧ ∃ (EE' SS' : Nat → List Nat) (k' : Nat), h'[57]? = some (.inr (7, [.ref 58, .int (nI t.length), .ref 59, .ref 60, .ref 61, .ref 62, .int (nI k'), .int (bI x.isSome), .int (dp), .ref 63, .ref 64, .ref 65, .ref 66, .int (wr), .int (fi), .ref 67])) ∧ mE h' EE' SS' ∧ (∀ j, j < 8 ∨ j = 11 → EE' j = EE j ∧ SS' j = SS j) ∧ k' < 2 ^ 20 ∧ ∀ q w, x = some (some q, w) → k' = p + w ∧ EE' 8 = pTab q ∧ SS' 8 = []
section MO12
variable {X : wX}
set_option maxHeartbeats 4000000 in
set_option maxRecDepth 100000 in
theorem m_MO_propAt {h : wH} {t : List Nat} {ap gd dp wr fi : Int32} (hx : h[57]? = some (.inr (7, [.ref 58, .int (nI t.length), .ref 59, .ref 60, .ref 61, .ref 62, .int (ap), .int (gd), .int (dp), .ref 63, .ref 64, .ref 65, .ref 66, .int (wr), .int (fi), .ref 67]))) (htx : mT h t) (ht31 : ∀ x ∈ t, x < 1114112) {k : Nat} (hk : k < 2 ^ 30) : PM X M_MO_propertyAt 1 0 0 [.ref 57, .int (nI k)] h (fun z h' => z = some (.int (bI (decide (pA t k)))) ∧ h' = h) := by
  refine PM.at (pl := [some (.ref 57), some (.int (nI k))]) rfl rfl (by simp [wle, wen]) ?_
  generalize hEN : wEm X 0 0 _ = EN
  refine w_aload_n d_MO_propertyAt_0 rfl rfl ?_
  refine w_iload_n d_MO_propertyAt_1 rfl ?_
  refine w_bipush (v := nI 91) d_MO_propertyAt_2 (by decide) ?_
  refine w_callV (as := [.int (nI k), .int (nI 91)]) (st := []) d_MO_propertyAt_4 yM_MO_is l_MO_83 vM_MO_is hx rfl rfl rfl rfl (m_MO_is hx htx ht31 (by omega) (by decide)) (by decide) (by decide) (by decide) (by decide) (Nat.le_of_ble_eq_true rfl) ?_
  rintro _ h9_1 ⟨rfl, e9_1⟩
  rw [e9_1]
  refine w_eq (st' := [.int (bI (decide (t[k]? = some 91)))]) rfl ?_
  refine w_if_eq (tgt := 22) d_MO_propertyAt_7 rfl (fun c7 => ?_) (fun c7 => ?_)
  · have c7 := of_decide_eq_false (bI_f c7)
    refine w_aload_n d_MO_propertyAt_22 rfl rfl ?_
    refine w_iload_n d_MO_propertyAt_23 rfl ?_
    refine w_bipush (v := nI 92) d_MO_propertyAt_24 (by decide) ?_
    refine w_callV (as := [.int (nI k), .int (nI 92)]) (st := []) d_MO_propertyAt_26 yM_MO_is l_MO_83 vM_MO_is hx rfl rfl rfl rfl (m_MO_is hx htx ht31 (by omega) (by decide)) (by decide) (by decide) (by decide) (by decide) (Nat.le_of_ble_eq_true rfl) ?_
    rintro _ h9_2 ⟨rfl, e9_2⟩
    rw [e9_2]
    refine w_eq (st' := [.int (bI (decide (t[k]? = some 92)))]) rfl ?_
    refine w_if_eq (tgt := 60) d_MO_propertyAt_29 rfl (fun c29 => ?_) (fun c29 => ?_)
    · have c29 := of_decide_eq_false (bI_f c29)
      refine w_iconst (v := nI 0) d_MO_propertyAt_60 (by decide) ?_
      rw [← hEN]
      refine w_zret d_MO_propertyAt_61 rfl (by first | exact Or.inl rfl | exact Or.inr rfl) ?_
      first
      | (rw [decide_eq_true (show pA t k by first | exact Or.inl ⟨c7, c19⟩ | exact Or.inr ⟨c29, Or.inl c41⟩ | exact Or.inr ⟨c29, Or.inr c53⟩)]; exact ⟨rfl, rfl⟩)
      | (rw [decide_eq_false (show ¬ pA t k by rintro (⟨z1, z2⟩ | ⟨z1, z2 | z2⟩) <;> first | exact c7 z1 | exact c19 z2 | exact c29 z1 | exact c41 z2 | exact c53 z2)]; exact ⟨rfl, rfl⟩)
    · have c29 := of_decide_eq_true (bI_t c29)
      refine w_aload_n d_MO_propertyAt_32 rfl rfl ?_
      refine w_iload_n d_MO_propertyAt_33 rfl ?_
      refine w_iconst (v := nI 1) d_MO_propertyAt_34 (by decide) ?_
      refine w_iadd d_MO_propertyAt_35 ?_
      refine w_topi (y := nI (k + 1)) (nI_1 _) ?_
      refine w_bipush (v := nI 112) d_MO_propertyAt_36 (by decide) ?_
      refine w_callV (as := [.int (nI (k + 1)), .int (nI 112)]) (st := []) d_MO_propertyAt_38 yM_MO_is l_MO_83 vM_MO_is hx rfl rfl rfl rfl (m_MO_is hx htx ht31 (by omega) (by decide)) (by decide) (by decide) (by decide) (by decide) (Nat.le_of_ble_eq_true rfl) ?_
      rintro _ h9_3 ⟨rfl, e9_3⟩
      rw [e9_3]
      refine w_eq (st' := [.int (bI (decide (t[k + 1]? = some 112)))]) rfl ?_
      refine w_if_ne (tgt := 56) d_MO_propertyAt_41 rfl (fun c41 => ?_) (fun c41 => ?_)
      · have c41 := of_decide_eq_true (bI_t c41)
        refine w_iconst (v := nI 1) d_MO_propertyAt_56 (by decide) ?_
        refine w_goto (tgt := 61) d_MO_propertyAt_57 rfl ?_
        rw [← hEN]
        refine w_zret d_MO_propertyAt_61 rfl (by first | exact Or.inl rfl | exact Or.inr rfl) ?_
        first
        | (rw [decide_eq_true (show pA t k by first | exact Or.inl ⟨c7, c19⟩ | exact Or.inr ⟨c29, Or.inl c41⟩ | exact Or.inr ⟨c29, Or.inr c53⟩)]; exact ⟨rfl, rfl⟩)
        | (rw [decide_eq_false (show ¬ pA t k by rintro (⟨z1, z2⟩ | ⟨z1, z2 | z2⟩) <;> first | exact c7 z1 | exact c19 z2 | exact c29 z1 | exact c41 z2 | exact c53 z2)]; exact ⟨rfl, rfl⟩)
      · have c41 := of_decide_eq_false (bI_f c41)
        refine w_aload_n d_MO_propertyAt_44 rfl rfl ?_
        refine w_iload_n d_MO_propertyAt_45 rfl ?_
        refine w_iconst (v := nI 1) d_MO_propertyAt_46 (by decide) ?_
        refine w_iadd d_MO_propertyAt_47 ?_
        refine w_topi (y := nI (k + 1)) (nI_1 _) ?_
        refine w_bipush (v := nI 80) d_MO_propertyAt_48 (by decide) ?_
        refine w_callV (as := [.int (nI (k + 1)), .int (nI 80)]) (st := []) d_MO_propertyAt_50 yM_MO_is l_MO_83 vM_MO_is hx rfl rfl rfl rfl (m_MO_is hx htx ht31 (by omega) (by decide)) (by decide) (by decide) (by decide) (by decide) (Nat.le_of_ble_eq_true rfl) ?_
        rintro _ h9_4 ⟨rfl, e9_4⟩
        rw [e9_4]
        refine w_eq (st' := [.int (bI (decide (t[k + 1]? = some 80)))]) rfl ?_
        refine w_if_eq (tgt := 60) d_MO_propertyAt_53 rfl (fun c53 => ?_) (fun c53 => ?_)
        · have c53 := of_decide_eq_false (bI_f c53)
          refine w_iconst (v := nI 0) d_MO_propertyAt_60 (by decide) ?_
          rw [← hEN]
          refine w_zret d_MO_propertyAt_61 rfl (by first | exact Or.inl rfl | exact Or.inr rfl) ?_
          first
          | (rw [decide_eq_true (show pA t k by first | exact Or.inl ⟨c7, c19⟩ | exact Or.inr ⟨c29, Or.inl c41⟩ | exact Or.inr ⟨c29, Or.inr c53⟩)]; exact ⟨rfl, rfl⟩)
          | (rw [decide_eq_false (show ¬ pA t k by rintro (⟨z1, z2⟩ | ⟨z1, z2 | z2⟩) <;> first | exact c7 z1 | exact c19 z2 | exact c29 z1 | exact c41 z2 | exact c53 z2)]; exact ⟨rfl, rfl⟩)
        · have c53 := of_decide_eq_true (bI_t c53)
          refine w_iconst (v := nI 1) d_MO_propertyAt_56 (by decide) ?_
          refine w_goto (tgt := 61) d_MO_propertyAt_57 rfl ?_
          rw [← hEN]
          refine w_zret d_MO_propertyAt_61 rfl (by first | exact Or.inl rfl | exact Or.inr rfl) ?_
          first
          | (rw [decide_eq_true (show pA t k by first | exact Or.inl ⟨c7, c19⟩ | exact Or.inr ⟨c29, Or.inl c41⟩ | exact Or.inr ⟨c29, Or.inr c53⟩)]; exact ⟨rfl, rfl⟩)
          | (rw [decide_eq_false (show ¬ pA t k by rintro (⟨z1, z2⟩ | ⟨z1, z2 | z2⟩) <;> first | exact c7 z1 | exact c19 z2 | exact c29 z1 | exact c41 z2 | exact c53 z2)]; exact ⟨rfl, rfl⟩)
  · have c7 := of_decide_eq_true (bI_t c7)
    refine w_aload_n d_MO_propertyAt_10 rfl rfl ?_
    refine w_iload_n d_MO_propertyAt_11 rfl ?_
    refine w_iconst (v := nI 1) d_MO_propertyAt_12 (by decide) ?_
    refine w_iadd d_MO_propertyAt_13 ?_
    refine w_topi (y := nI (k + 1)) (nI_1 _) ?_
    refine w_bipush (v := nI 58) d_MO_propertyAt_14 (by decide) ?_
    refine w_callV (as := [.int (nI (k + 1)), .int (nI 58)]) (st := []) d_MO_propertyAt_16 yM_MO_is l_MO_83 vM_MO_is hx rfl rfl rfl rfl (m_MO_is hx htx ht31 (by omega) (by decide)) (by decide) (by decide) (by decide) (by decide) (Nat.le_of_ble_eq_true rfl) ?_
    rintro _ h9_5 ⟨rfl, e9_5⟩
    rw [e9_5]
    refine w_eq (st' := [.int (bI (decide (t[k + 1]? = some 58)))]) rfl ?_
    refine w_if_ne (tgt := 56) d_MO_propertyAt_19 rfl (fun c19 => ?_) (fun c19 => ?_)
    · have c19 := of_decide_eq_true (bI_t c19)
      refine w_iconst (v := nI 1) d_MO_propertyAt_56 (by decide) ?_
      refine w_goto (tgt := 61) d_MO_propertyAt_57 rfl ?_
      rw [← hEN]
      refine w_zret d_MO_propertyAt_61 rfl (by first | exact Or.inl rfl | exact Or.inr rfl) ?_
      first
      | (rw [decide_eq_true (show pA t k by first | exact Or.inl ⟨c7, c19⟩ | exact Or.inr ⟨c29, Or.inl c41⟩ | exact Or.inr ⟨c29, Or.inr c53⟩)]; exact ⟨rfl, rfl⟩)
      | (rw [decide_eq_false (show ¬ pA t k by rintro (⟨z1, z2⟩ | ⟨z1, z2 | z2⟩) <;> first | exact c7 z1 | exact c19 z2 | exact c29 z1 | exact c41 z2 | exact c53 z2)]; exact ⟨rfl, rfl⟩)
    · have c19 := of_decide_eq_false (bI_f c19)
      refine w_aload_n d_MO_propertyAt_22 rfl rfl ?_
      refine w_iload_n d_MO_propertyAt_23 rfl ?_
      refine w_bipush (v := nI 92) d_MO_propertyAt_24 (by decide) ?_
      refine w_callV (as := [.int (nI k), .int (nI 92)]) (st := []) d_MO_propertyAt_26 yM_MO_is l_MO_83 vM_MO_is hx rfl rfl rfl rfl (m_MO_is hx htx ht31 (by omega) (by decide)) (by decide) (by decide) (by decide) (by decide) (Nat.le_of_ble_eq_true rfl) ?_
      rintro _ h9_6 ⟨rfl, e9_6⟩
      rw [e9_6]
      refine w_eq (st' := [.int (bI (decide (t[k]? = some 92)))]) rfl ?_
      refine w_if_eq (tgt := 60) d_MO_propertyAt_29 rfl (fun c29 => ?_) (fun c29 => ?_)
      · have c29 := of_decide_eq_false (bI_f c29)
        refine w_iconst (v := nI 0) d_MO_propertyAt_60 (by decide) ?_
        rw [← hEN]
        refine w_zret d_MO_propertyAt_61 rfl (by first | exact Or.inl rfl | exact Or.inr rfl) ?_
        first
        | (rw [decide_eq_true (show pA t k by first | exact Or.inl ⟨c7, c19⟩ | exact Or.inr ⟨c29, Or.inl c41⟩ | exact Or.inr ⟨c29, Or.inr c53⟩)]; exact ⟨rfl, rfl⟩)
        | (rw [decide_eq_false (show ¬ pA t k by rintro (⟨z1, z2⟩ | ⟨z1, z2 | z2⟩) <;> first | exact c7 z1 | exact c19 z2 | exact c29 z1 | exact c41 z2 | exact c53 z2)]; exact ⟨rfl, rfl⟩)
      · have c29 := of_decide_eq_true (bI_t c29)
        refine w_aload_n d_MO_propertyAt_32 rfl rfl ?_
        refine w_iload_n d_MO_propertyAt_33 rfl ?_
        refine w_iconst (v := nI 1) d_MO_propertyAt_34 (by decide) ?_
        refine w_iadd d_MO_propertyAt_35 ?_
        refine w_topi (y := nI (k + 1)) (nI_1 _) ?_
        refine w_bipush (v := nI 112) d_MO_propertyAt_36 (by decide) ?_
        refine w_callV (as := [.int (nI (k + 1)), .int (nI 112)]) (st := []) d_MO_propertyAt_38 yM_MO_is l_MO_83 vM_MO_is hx rfl rfl rfl rfl (m_MO_is hx htx ht31 (by omega) (by decide)) (by decide) (by decide) (by decide) (by decide) (Nat.le_of_ble_eq_true rfl) ?_
        rintro _ h9_7 ⟨rfl, e9_7⟩
        rw [e9_7]
        refine w_eq (st' := [.int (bI (decide (t[k + 1]? = some 112)))]) rfl ?_
        refine w_if_ne (tgt := 56) d_MO_propertyAt_41 rfl (fun c41 => ?_) (fun c41 => ?_)
        · have c41 := of_decide_eq_true (bI_t c41)
          refine w_iconst (v := nI 1) d_MO_propertyAt_56 (by decide) ?_
          refine w_goto (tgt := 61) d_MO_propertyAt_57 rfl ?_
          rw [← hEN]
          refine w_zret d_MO_propertyAt_61 rfl (by first | exact Or.inl rfl | exact Or.inr rfl) ?_
          first
          | (rw [decide_eq_true (show pA t k by first | exact Or.inl ⟨c7, c19⟩ | exact Or.inr ⟨c29, Or.inl c41⟩ | exact Or.inr ⟨c29, Or.inr c53⟩)]; exact ⟨rfl, rfl⟩)
          | (rw [decide_eq_false (show ¬ pA t k by rintro (⟨z1, z2⟩ | ⟨z1, z2 | z2⟩) <;> first | exact c7 z1 | exact c19 z2 | exact c29 z1 | exact c41 z2 | exact c53 z2)]; exact ⟨rfl, rfl⟩)
        · have c41 := of_decide_eq_false (bI_f c41)
          refine w_aload_n d_MO_propertyAt_44 rfl rfl ?_
          refine w_iload_n d_MO_propertyAt_45 rfl ?_
          refine w_iconst (v := nI 1) d_MO_propertyAt_46 (by decide) ?_
          refine w_iadd d_MO_propertyAt_47 ?_
          refine w_topi (y := nI (k + 1)) (nI_1 _) ?_
          refine w_bipush (v := nI 80) d_MO_propertyAt_48 (by decide) ?_
          refine w_callV (as := [.int (nI (k + 1)), .int (nI 80)]) (st := []) d_MO_propertyAt_50 yM_MO_is l_MO_83 vM_MO_is hx rfl rfl rfl rfl (m_MO_is hx htx ht31 (by omega) (by decide)) (by decide) (by decide) (by decide) (by decide) (Nat.le_of_ble_eq_true rfl) ?_
          rintro _ h9_8 ⟨rfl, e9_8⟩
          rw [e9_8]
          refine w_eq (st' := [.int (bI (decide (t[k + 1]? = some 80)))]) rfl ?_
          refine w_if_eq (tgt := 60) d_MO_propertyAt_53 rfl (fun c53 => ?_) (fun c53 => ?_)
          · have c53 := of_decide_eq_false (bI_f c53)
            refine w_iconst (v := nI 0) d_MO_propertyAt_60 (by decide) ?_
            rw [← hEN]
            refine w_zret d_MO_propertyAt_61 rfl (by first | exact Or.inl rfl | exact Or.inr rfl) ?_
            first
            | (rw [decide_eq_true (show pA t k by first | exact Or.inl ⟨c7, c19⟩ | exact Or.inr ⟨c29, Or.inl c41⟩ | exact Or.inr ⟨c29, Or.inr c53⟩)]; exact ⟨rfl, rfl⟩)
            | (rw [decide_eq_false (show ¬ pA t k by rintro (⟨z1, z2⟩ | ⟨z1, z2 | z2⟩) <;> first | exact c7 z1 | exact c19 z2 | exact c29 z1 | exact c41 z2 | exact c53 z2)]; exact ⟨rfl, rfl⟩)
          · have c53 := of_decide_eq_true (bI_t c53)
            refine w_iconst (v := nI 1) d_MO_propertyAt_56 (by decide) ?_
            refine w_goto (tgt := 61) d_MO_propertyAt_57 rfl ?_
            rw [← hEN]
            refine w_zret d_MO_propertyAt_61 rfl (by first | exact Or.inl rfl | exact Or.inr rfl) ?_
            first
            | (rw [decide_eq_true (show pA t k by first | exact Or.inl ⟨c7, c19⟩ | exact Or.inr ⟨c29, Or.inl c41⟩ | exact Or.inr ⟨c29, Or.inr c53⟩)]; exact ⟨rfl, rfl⟩)
            | (rw [decide_eq_false (show ¬ pA t k by rintro (⟨z1, z2⟩ | ⟨z1, z2 | z2⟩) <;> first | exact c7 z1 | exact c19 z2 | exact c29 z1 | exact c41 z2 | exact c53 z2)]; exact ⟨rfl, rfl⟩)
set_option maxHeartbeats 4000000 in
set_option maxRecDepth 100000 in
theorem m_MO_setAt {h : wH} {t : List Nat} {ap gd dp wr fi : Int32} (hx : h[57]? = some (.inr (7, [.ref 58, .int (nI t.length), .ref 59, .ref 60, .ref 61, .ref 62, .int (ap), .int (gd), .int (dp), .ref 63, .ref 64, .ref 65, .ref 66, .int (wr), .int (fi), .ref 67]))) (htx : mT h t) (ht31 : ∀ x ∈ t, x < 1114112) {k : Nat} (hk : k < 2 ^ 30) : PM X M_MO_setAt 2 0 0 [.ref 57, .int (nI k)] h (fun z h' => z = some (.int (bI (decide (t[k]? = some 91 ∨ pA t k)))) ∧ h' = h) := by
  refine PM.at (pl := [some (.ref 57), some (.int (nI k))]) rfl rfl (by simp [wle, wen]) ?_
  generalize hEN : wEm X 0 0 _ = EN
  refine w_aload_n d_MO_setAt_0 rfl rfl ?_
  refine w_iload_n d_MO_setAt_1 rfl ?_
  refine w_bipush (v := nI 91) d_MO_setAt_2 (by decide) ?_
  refine w_callV (as := [.int (nI k), .int (nI 91)]) (st := []) d_MO_setAt_4 yM_MO_is l_MO_83 vM_MO_is hx rfl rfl rfl rfl (m_MO_is hx htx ht31 (by omega) (by decide)) (by decide) (by decide) (by decide) (by decide) (Nat.le_of_ble_eq_true rfl) ?_
  rintro _ h9_1 ⟨rfl, e9_1⟩
  rw [e9_1]
  refine w_eq (st' := [.int (bI (decide (t[k]? = some 91)))]) rfl ?_
  refine w_if_ne (tgt := 18) d_MO_setAt_7 rfl (fun c7 => ?_) (fun c7 => ?_)
  · have c7 := of_decide_eq_true (bI_t c7)
    refine w_iconst (v := nI 1) d_MO_setAt_18 (by decide) ?_
    refine w_goto (tgt := 23) d_MO_setAt_19 rfl ?_
    rw [← hEN]
    refine w_zret d_MO_setAt_23 rfl (by first | exact Or.inl rfl | exact Or.inr rfl) ?_
    first
    | (rw [decide_eq_true (show t[k]? = some 91 ∨ pA t k by first | exact Or.inl c7 | exact Or.inr c15)]; exact ⟨rfl, rfl⟩)
    | (rw [decide_eq_false (show ¬ (t[k]? = some 91 ∨ pA t k) by rintro (z | z); exact c7 z; exact c15 z)]; exact ⟨rfl, rfl⟩)
  · have c7 := of_decide_eq_false (bI_f c7)
    refine w_aload_n d_MO_setAt_10 rfl rfl ?_
    refine w_iload_n d_MO_setAt_11 rfl ?_
    refine w_callV (as := [.int (nI k)]) (st := []) d_MO_setAt_12 yM_MO_propertyAt l_MO_111 vM_MO_propertyAt hx rfl rfl rfl rfl (m_MO_propAt hx htx ht31 hk) (by decide) (by decide) (by decide) (by decide) (Nat.le_of_ble_eq_true rfl) ?_
    rintro _ h9_2 ⟨rfl, e9_2⟩
    rw [e9_2]
    refine w_eq (st' := [.int (bI (decide (pA t k)))]) rfl ?_
    refine w_if_eq (tgt := 22) d_MO_setAt_15 rfl (fun c15 => ?_) (fun c15 => ?_)
    · have c15 := of_decide_eq_false (bI_f c15)
      refine w_iconst (v := nI 0) d_MO_setAt_22 (by decide) ?_
      rw [← hEN]
      refine w_zret d_MO_setAt_23 rfl (by first | exact Or.inl rfl | exact Or.inr rfl) ?_
      first
      | (rw [decide_eq_true (show t[k]? = some 91 ∨ pA t k by first | exact Or.inl c7 | exact Or.inr c15)]; exact ⟨rfl, rfl⟩)
      | (rw [decide_eq_false (show ¬ (t[k]? = some 91 ∨ pA t k) by rintro (z | z); exact c7 z; exact c15 z)]; exact ⟨rfl, rfl⟩)
    · have c15 := of_decide_eq_true (bI_t c15)
      refine w_iconst (v := nI 1) d_MO_setAt_18 (by decide) ?_
      refine w_goto (tgt := 23) d_MO_setAt_19 rfl ?_
      rw [← hEN]
      refine w_zret d_MO_setAt_23 rfl (by first | exact Or.inl rfl | exact Or.inr rfl) ?_
      first
      | (rw [decide_eq_true (show t[k]? = some 91 ∨ pA t k by first | exact Or.inl c7 | exact Or.inr c15)]; exact ⟨rfl, rfl⟩)
      | (rw [decide_eq_false (show ¬ (t[k]? = some 91 ∨ pA t k) by rintro (z | z); exact c7 z; exact c15 z)]; exact ⟨rfl, rfl⟩)
theorem rTab_ok {l : List Nat} (h : ¬ nmN l = -1) : eOk (rTab (nmN l)) := by
  obtain ⟨i, h1, h2, h3⟩ := nmN_some h
  have := tabL_ok i h1
  rw [h2]
  unfold rTab
  rw [nI_clamp (by omega)]
  exact ⟨this.1, this.2.1⟩
theorem rTab_len {l : List Nat} (h : ¬ nmN l = -1) : (rTab (nmN l)).length + [0, 1114112].length ≤ 420 := by
  obtain ⟨i, h1, h2, h3⟩ := nmN_some h
  have := tabL_ok i h1
  rw [h2]
  unfold rTab
  rw [nI_clamp (by omega)]
  have h4 : [0, 1114112].length = 2 := rfl
  omega
set_option maxHeartbeats 4000000 in
set_option maxRecDepth 100000 in
theorem m_MO_propB1 {h : wH} {t : List Nat} {dp wr fi : Int32} {p : Nat} (hx : h[57]? = some (.inr (7, [.ref 58, .int (nI t.length), .ref 59, .ref 60, .ref 61, .ref 62, .int (nI p), .int (nI 1), .int (dp), .ref 63, .ref 64, .ref 65, .ref 66, .int (wr), .int (fi), .ref 67]))) (htx : mT h t) (ht31 : ∀ x ∈ t, x < 1114112) {EE SS : Nat → List Nat} (hE : mE h EE SS) (h11 : EE 11 = [0, 1114112]) (s11 : SS 11 = []) (hp : p < 2 ^ 10) (hc0 : t[p]? = some 91) (hc1 : t[p + 1]? = some 58) (hc2 : t[p + 2]? = some 94) : PM X M_MO_property 6 0 0 [.ref 57] h (ppQ (pX t p) t p dp wr fi EE SS h) := by
  obtain ⟨tf, tp, t60, thf⟩ := id htx
  have hl1 := lx_lt hc1
  have hlx : pX t p = lxOpen2 t p true (nmR t (t.length - (p + 3)) (p + 3) []) := by unfold pX; rw [hc0]; show lxOpen t p = _; unfold lxOpen; rw [if_neg (by rw [hc1]; decide), if_pos hc1, decide_eq_true hc2]; rfl
  have hl2 := lx_lt hc2
  obtain ⟨x, hx0⟩ : ∃ x, x = pX t p := ⟨_, rfl⟩
  rw [← hx0]
  refine PM.at (pl := [some (.ref 57), none, none, none, none, none, none]) rfl rfl (by simp [wle, wen]) ?_
  generalize hEN : wEm X 0 0 _ = EN
  have C : ∀ (h3 : wH) (k : Nat) (l : List Nat) (g : Bool), (h3[57]? = some (.inr (7, [.ref 58, .int (nI t.length), .ref 59, .ref 60, .ref 61, .ref 62, .int (nI k), .int (bI g), .int (dp), .ref 63, .ref 64, .ref 65, .ref 66, .int (wr), .int (fi), .ref 67]))) → (∀ i, i ≠ 57 → h3[i]? = h[i]?) → (k < 2 ^ 11) → (x = if g = true ∧ t[k]? = some 58 ∧ t[k + 1]? = some 93 then lxProp true l (k + 2 - p) else none) → (∀ y ∈ l, 1 ≤ y ∧ y < 128) → (l.length ≤ k) → (p ≤ k) → WP X M_MO_property (wR 6 0 0) 0 EN 0 0 240 [some (.ref 57), some (.int (nI 1)), some (.int (bI (true))), some (.long (lN (wX9 l))), none, some (.int (nI (l.length))), none] [] h3 := by
    intro h3 k l g k3 k4 k5 k6 k7 k8 k9
    refine w_iload_n d_MO_property_240 rfl ?_
    refine w_if_eq (tgt := 259) d_MO_property_241 rfl (fun z => absurd z (by decide)) (fun _ => ?_)
    refine w_aload_n d_MO_property_244 rfl rfl ?_
    refine w_bipush (v := nI 58) d_MO_property_245 (by decide) ?_
    have tk3 := htx.keep k4
    refine w_callV (as := [.int (nI 58)]) (st := []) d_MO_property_247 yM_MO_expect l_MO_105 vM_MO_expect k3 rfl rfl rfl rfl (m_MO_expect (g0 := g) (k := k) (c := 58) k3 (htx.keep k4) ht31 (by omega) (by decide)) (by decide) (by decide) (by decide) (by decide) (Nat.le_of_ble_eq_true rfl) ?_
    rintro _ h4 ⟨rfl, x1, y1⟩
    refine w_eq (st' := []) rfl ?_
    have K1 : ∀ i, i ≠ 57 → h4[i]? = h[i]? := fun i hi => (y1 i hi).trans (k4 i hi)
    refine w_aload_n d_MO_property_250 rfl rfl ?_
    refine w_bipush (v := nI 93) d_MO_property_251 (by decide) ?_
    refine w_callV (as := [.int (nI 93)]) (st := []) d_MO_property_253 yM_MO_expect l_MO_105 vM_MO_expect x1 rfl rfl rfl rfl (m_MO_expect (g0 := g && decide (t[k]? = some 58)) (k := k + 1) (c := 93) x1 (htx.keep K1) ht31 (by omega) (by decide)) (by decide) (by decide) (by decide) (by decide) (Nat.le_of_ble_eq_true rfl) ?_
    rintro _ h5 ⟨rfl, x2, y2⟩
    refine w_eq (st' := []) rfl ?_
    have K2 : ∀ i, i ≠ 57 → h5[i]? = h[i]? := fun i hi => (y2 i hi).trans (K1 i hi)
    refine w_goto (tgt := 265) d_MO_property_256 rfl ?_
    refine w_aload_n d_MO_property_265 rfl rfl ?_
    refine w_aload_n d_MO_property_266 rfl rfl ?_
    refine w_get d_MO_property_267 f_MO_93 x2 rfl ?_
    suffices J285 : WP X M_MO_property (wR 6 0 0) 0 EN 0 0 285 [some (.ref 57), some (.int (nI 1)), some (.int (bI (true))), some (.long (lN (wX9 l))), none, some (.int (nI (l.length))), none] [.int (bI (g && decide (t[k]? = some 58) && decide (t[k + 1]? = some 93) && decide (l.length ≤ 9))), .ref 57] h5 by
      refine w_if_eq (tgt := 284) d_MO_property_270 rfl (fun c270 => ?_) (fun c270 => ?_)
      · have c270 := bI_f c270
        refine w_iconst (v := nI 0) d_MO_property_284 (by decide) ?_
        exact w_topi (by rw [c270]; rfl) J285
      · have c270 := bI_t c270
        refine w_iload d_MO_property_273 rfl ?_
        refine w_bipush (v := nI 9) d_MO_property_275 (by decide) ?_
        refine w_icmp_gt (tgt := 284) d_MO_property_277 rfl (fun c277 => ?_) (fun c277 => ?_)
        · have c277 : ¬ l.length ≤ 9 := Nat.not_le.mpr ((nI_ltI (a := 9) (b := l.length) (by decide) (by omega)).mp c277)
          refine w_iconst (v := nI 0) d_MO_property_284 (by decide) ?_
          exact w_topi (by rw [c270, decide_eq_false c277]; rfl) J285
        · have c277 : l.length ≤ 9 := Nat.not_lt.mp (fun z => c277 ((nI_ltI (a := 9) (b := l.length) (by decide) (by omega)).mpr z))
          refine w_iconst (v := nI 1) d_MO_property_280 (by decide) ?_
          refine w_goto (tgt := 285) d_MO_property_281 rfl ?_
          exact w_topi (by rw [c270, decide_eq_true c277]; rfl) J285
    refine w_put d_MO_property_285 f_MO_93 rfl x2 rfl (bI_nar _) (bI_fit _) ?_
    refine w_nm (fun h1 e1 => ?_)
    have x2_1 := wS_eq e1 x2
    refine w_aload_n d_MO_property_288 rfl rfl ?_
    refine w_bipush (v := nI 8) d_MO_property_289 (by decide) ?_
    have K3 : ∀ i, i ≠ 57 → h1[i]? = h[i]? := fun i hi => by rw [wS_off e1 (by omega)]; exact K2 i hi
    refine w_callV (as := [.int (nI 8)]) (st := []) d_MO_property_291 yM_MO_empty l_MO_48 vM_MO_empty x2_1 rfl rfl rfl rfl (m_MO_empty x2_1 (hE.keep K3) (t := 8) (by decide)) (by decide) (by decide) (by decide) (by decide) (Nat.le_of_ble_eq_true rfl) ?_
    rintro _ h6 ⟨rfl, e6, o6⟩
    refine w_eq (st' := []) rfl ?_
    have x6 := (o6 57 (by omega)).trans x2_1
    have K6 : ∀ j, j ≠ 57 → (j < 59 ∨ 63 ≤ j) → h6[j]? = h[j]? := fun j h1 h2 => (o6 j (by omega)).trans (K3 j h1)
    have f8 : va_up EE 8 [] 8 = [] := if_pos rfl
    have s8 : va_up SS 8 [] 8 = [] := if_pos rfl
    have fj : ∀ j, j < 8 ∨ j = 11 → va_up EE 8 [] j = EE j ∧ va_up SS 8 [] j = SS j := fun j hj => ⟨if_neg (by omega), if_neg (by omega)⟩
    refine w_aload_n d_MO_property_294 rfl rfl ?_
    refine w_get d_MO_property_295 f_MO_93 x6 rfl ?_
    refine w_if_eq (tgt := 306) d_MO_property_298 rfl (fun c298 => ?_) (fun c298 => ?_)
    · have c298 := bI_f c298
      have hxn : x = none := by
        rw [k6]
        split
        · rename_i hc
          refine lxProp_no (nmN_9 fun z => ?_)
          rw [decide_eq_true z] at c298
          rw [decide_eq_true hc.2.1, decide_eq_true hc.2.2, hc.1] at c298
          cases c298
        · rfl
      refine w_aload_n d_MO_property_306 rfl rfl ?_
      refine w_get d_MO_property_307 f_MO_93 x6 rfl ?_
      refine w_if_eq (tgt := 326) d_MO_property_310 rfl (fun _ => ?_) (fun z => absurd (by rw [c298]; rfl) z)
      rw [← hEN]
      refine w_vret d_MO_property_326 rfl ?_
      rw [c298] at x6
      rw [hxn]
      exact ⟨rfl, K6, _, _, _, x6, e6, fj, by omega, fun q w z => by cases z⟩
    · have c298 := bI_t c298
      simp only [Bool.and_eq_true, decide_eq_true_eq] at c298
      rw [if_pos ⟨c298.1.1.1, c298.1.1.2, c298.1.2⟩] at k6
      have hX9 : wX9 l = wdN l := if_pos c298.2
      rw [show (g && decide (t[k]? = some 58) && decide (t[k + 1]? = some 93) && decide (l.length ≤ 9)) = true by simp only [Bool.and_eq_true, decide_eq_true_eq]; exact c298] at x6
      refine w_aload_n d_MO_property_301 rfl rfl ?_
      refine w_lload_n d_MO_property_302 rfl ?_
      refine w_topl (y := lN (wdN l)) (by rw [hX9]) ?_
      refine w_callV (as := [.long (lN (wdN l))]) (st := []) d_MO_property_303 yM_MO_fillNamed l_MO_116 vM_MO_fillNamed x6 rfl rfl rfl rfl (m_MO_fill (wr := wr) x6 e6 f8 s8 (l := l) c298.2 k7) (by decide) (by decide) (by decide) (by decide) (Nat.le_of_ble_eq_true rfl) ?_
      rintro _ h7 ⟨rfl, o7, x7, F7, T7, e7, j7, q7⟩
      refine w_eq (st' := []) rfl ?_
      refine w_aload_n d_MO_property_306 rfl rfl ?_
      refine w_get d_MO_property_307 f_MO_93 x7 rfl ?_
      refine w_if_eq (tgt := 326) d_MO_property_310 rfl (fun c310 => ?_) (fun c310 => ?_)
      · have c310 := Decidable.not_not.mp (of_decide_eq_false (bI_f c310))
        rw [lxProp_no c310] at k6
        rw [← hEN]
        refine w_vret d_MO_property_326 rfl ?_
        first
        | (rw [decide_eq_false (fun z => z c310)] at x7
           rw [k6]
           exact ⟨rfl, fun j h1 h2 => (o7 j h1 h2).trans (K6 j h1 h2), _, _, _, x7, e7, fun j hj => ⟨(j7 j hj).1.trans (fj j hj).1, (j7 j hj).2.trans (fj j hj).2⟩, by omega, fun q w z => by cases z⟩)
        | (rw [decide_eq_true c310] at x7
           rw [k6]
           refine ⟨rfl, fun j h1 h2 => (o7 j h1 h2).trans (K6 j h1 h2), _, _, _, x7, e7, fun j hj => ⟨(j7 j hj).1.trans (fj j hj).1, (j7 j hj).2.trans (fj j hj).2⟩, by omega, fun q w z => ?_⟩
           cases z
           refine ⟨by omega, ?_, r8⟩
           rw [q8, if_neg (fun z => absurd (c314.symm.trans z) (by decide)), pTab_f])
      · have c310 := of_decide_eq_true (bI_t c310)
        obtain ⟨q8, r8⟩ := q7 c310
        rw [lxProp_yes c310] at k6
        refine w_iload_n d_MO_property_313 rfl ?_
        refine w_if_eq (tgt := 326) d_MO_property_314 rfl (fun c314 => ?_) (fun c314 => ?_)
        · have c314 := bI_f c314
          rw [← hEN]
          refine w_vret d_MO_property_326 rfl ?_
          first
          | (rw [decide_eq_false (fun z => z c310)] at x7
             rw [k6]
             exact ⟨rfl, fun j h1 h2 => (o7 j h1 h2).trans (K6 j h1 h2), _, _, _, x7, e7, fun j hj => ⟨(j7 j hj).1.trans (fj j hj).1, (j7 j hj).2.trans (fj j hj).2⟩, by omega, fun q w z => by cases z⟩)
          | (rw [decide_eq_true c310] at x7
             rw [k6]
             refine ⟨rfl, fun j h1 h2 => (o7 j h1 h2).trans (K6 j h1 h2), _, _, _, x7, e7, fun j hj => ⟨(j7 j hj).1.trans (fj j hj).1, (j7 j hj).2.trans (fj j hj).2⟩, by omega, fun q w z => ?_⟩
             cases z
             refine ⟨by omega, ?_, r8⟩
             rw [q8, if_neg (fun z => absurd (c314.symm.trans z) (by decide)), pTab_f])
        · have c314 := bI_t c314
          refine w_aload_n d_MO_property_317 rfl rfl ?_
          refine w_bipush (v := nI 8) d_MO_property_318 (by decide) ?_
          refine w_bipush (v := nI 11) d_MO_property_320 (by decide) ?_
          refine w_iconst (v := nI 3) d_MO_property_322 (by decide) ?_
          refine w_callV (as := [.int (nI 8), .int (nI 11), .int (nI 3)]) (st := []) d_MO_property_323 yM_MO_join l_MO_80 vM_MO_join x7 rfl rfl rfl rfl (m_MO_join (t := 8) (b := 11) (how := 3) x7 e7 (by decide) (by decide) (by decide) (by decide) (by decide) (by rw [q8]; exact rTab_ok c310) (by rw [(j7 11 (Or.inr rfl)).1, (fj 11 (Or.inr rfl)).1, h11]; exact ⟨(by unfold eAsc; decide), (by decide)⟩) (by rw [q8, (j7 11 (Or.inr rfl)).1, (fj 11 (Or.inr rfl)).1, h11]; exact rTab_len c310) (by rw [r8]; intro y hy; cases hy) (by rw [(j7 11 (Or.inr rfl)).2, (fj 11 (Or.inr rfl)).2, s11]; intro y hy; cases hy) (by rw [r8, (j7 11 (Or.inr rfl)).2, (fj 11 (Or.inr rfl)).2, s11]; decide)) (by decide) (by decide) (by decide) (by decide) (Nat.le_of_ble_eq_true rfl) ?_
          rintro _ h8 ⟨rfl, o8, F8, T8, e8, u8, v8, j8⟩
          refine w_eq (st' := []) rfl ?_
          have x8 := (o8 57 (by omega)).trans x7
          rw [← hEN]
          refine w_vret d_MO_property_326 rfl ?_
          rw [decide_eq_true c310] at x8
          rw [k6]
          refine ⟨rfl, fun j h1 h2 => (o8 j (by omega)).trans ((o7 j h1 h2).trans (K6 j h1 h2)), _, _, _, x8, e8, fun j hj => ?_, by omega, fun q w z => ?_⟩
          · have a1 := j8 j (by omega) (by omega)
            have a2 := j7 j hj
            have a3 := fj j hj
            exact ⟨a1.1.trans (a2.1.trans a3.1), a1.2.trans (a2.2.trans a3.2)⟩
          · cases z
            refine ⟨by omega, ?_, ?_⟩
            · rw [u8, q8, (j7 11 (Or.inr rfl)).1, (fj 11 (Or.inr rfl)).1, h11, if_pos c314, pTab_t]
            · rw [v8, r8, (j7 11 (Or.inr rfl)).2, (fj 11 (Or.inr rfl)).2, s11]; rfl
  have L : ∀ (n : Nat) (k : Nat) (l : List Nat) (h3 : wH) (g : Bool), (t.length - k < n) → (k < 2 ^ 10 + 4 ∨ k ≤ t.length) → (h3[57]? = some (.inr (7, [.ref 58, .int (nI t.length), .ref 59, .ref 60, .ref 61, .ref 62, .int (nI k), .int (bI g), .int (dp), .ref 63, .ref 64, .ref 65, .ref 66, .int (wr), .int (fi), .ref 67]))) → (∀ i, i ≠ 57 → h3[i]? = h[i]?) → (g = true → k ≤ t.length) → (g = true → nmR t (t.length - k) k l = nmR t (t.length - (p + 3)) (p + 3) []) → (∀ k2 l2, (g = true → (k2, l2) = nmR t (t.length - (p + 3)) (p + 3) []) → x = (fun k l => if g = true ∧ t[k]? = some 58 ∧ t[k + 1]? = some 93 then lxProp true l (k + 2 - p) else none) k2 l2) → (∀ y ∈ l, 1 ≤ y ∧ y < 128) → (l.length ≤ k) → (p ≤ k) → WP X M_MO_property (wR 6 0 0) 0 EN 0 0 77 [some (.ref 57), some (.int (nI 1)), some (.int (bI (true))), some (.long (lN (wX9 l))), none, some (.int (nI (l.length))), none] [] h3 := by
    intro n
    induction n with
    | zero => intro k l h3 g k1 k2 k3 k4 k5 k6 k7 k8 k10 k9; omega
    | succ n ih =>
      intro k l h3 g k1 k2 k3 k4 k5 k6 k7 k8 k10 k9
      have tp3 := (k4 58 (by omega)).trans tp
      refine w_aload_n d_MO_property_77 rfl rfl ?_
      refine w_get d_MO_property_78 f_MO_86 k3 rfl ?_
      refine w_aload_n d_MO_property_81 rfl rfl ?_
      refine w_get d_MO_property_82 f_MO_43 k3 rfl ?_
      refine w_icmp_ge (tgt := 240) d_MO_property_85 rfl (fun c85 => ?_) (fun c85 => ?_)
      · have c85 := (nI_leI (a := t.length) (b := k) (by omega) (by omega)).mp c85
        have hq : g = true → (k, l) = nmR t (t.length - (p + 3)) (p + 3) [] := fun z => by rw [← k6 z, show t.length - k = 0 by omega, show k = t.length by have := k5 z; omega]; rfl
        exact C h3 k l g k3 k4 (by omega) (k7 k l hq) k8 k10 k9
      · have c85 : k < t.length := Nat.not_le.mp (fun z => c85 ((nI_leI (a := t.length) (b := k) (by omega) (by omega)).mpr z))
        obtain ⟨y, hy⟩ := t_at c85
        have hyl := ht31 y (List.mem_of_getElem? hy)
        have hstep : ∀ z : g = true, (if ltI (nI y) = true then nmR t (t.length - (k + 1)) (k + 1) (l ++ [y ||| 32]) else if y = 32 ∨ y = 95 ∨ y = 45 then nmR t (t.length - (k + 1)) (k + 1) l else (k, l)) = nmR t (t.length - (p + 3)) (p + 3) [] := fun z => by
          rw [← k6 z, show t.length - k = (t.length - (k + 1)) + 1 by omega]
          conv => rhs; unfold nmR
          rw [hy]
        refine w_aload_n d_MO_property_88 rfl rfl ?_
        refine w_get d_MO_property_89 f_MO_7 k3 rfl ?_
        refine w_aload_n d_MO_property_92 rfl rfl ?_
        refine w_get d_MO_property_93 f_MO_86 k3 rfl ?_
        refine w_iald d_MO_property_96 tp3 (vp_in_nI (by omega) (by decide)) ?_
        refine w_topi (y := nI y) (by rw [nI_clamp (by omega)]; exact thf _ _ hy) ?_
        refine w_callS (as := [.int (nI y)]) (st := []) d_MO_property_97 yM_MO_letter l_MO_108 sM_MO_letter rfl rfl (m_MO_letter) (by decide) (by decide) (by decide) (by decide) (Nat.le_of_ble_eq_true rfl) ?_
        rintro _ h9_2 ⟨rfl, e9_2⟩
        rw [e9_2]
        refine w_eq (st' := [.int (bI (ltI (nI y)))]) rfl ?_
        suffices J145 : (ltI (nI y) = true ∨ y = 32 ∨ y = 95 ∨ y = 45) → WP X M_MO_property (wR 6 0 0) 0 EN 0 0 145 [some (.ref 57), some (.int (nI 1)), some (.int (bI (true))), some (.long (lN (wX9 l))), none, some (.int (nI (l.length))), none] [] h3 by
          refine w_if_ne (tgt := 145) d_MO_property_100 rfl (fun c100 => ?_) (fun c100 => ?_)
          · have c100 := bI_t c100
            exact J145 (Or.inl c100)
          · have c100 := bI_f c100
            refine w_aload_n d_MO_property_103 rfl rfl ?_
            refine w_get d_MO_property_104 f_MO_7 k3 rfl ?_
            refine w_aload_n d_MO_property_107 rfl rfl ?_
            refine w_get d_MO_property_108 f_MO_86 k3 rfl ?_
            refine w_iald d_MO_property_111 tp3 (vp_in_nI (by omega) (by decide)) ?_
            refine w_topi (y := nI y) (by rw [nI_clamp (by omega)]; exact thf _ _ hy) ?_
            refine w_bipush (v := nI 32) d_MO_property_112 (by decide) ?_
            refine w_icmp_eq (tgt := 145) d_MO_property_114 rfl (fun c114 => ?_) (fun c114 => ?_)
            · have c114 := (nI_eq (a := y) (b := 32) (by omega) (by decide)).mp c114
              exact J145 (Or.inr (Or.inl c114))
            · have c114 : y ≠ 32 := fun z => c114 (by rw [z])
              refine w_aload_n d_MO_property_117 rfl rfl ?_
              refine w_get d_MO_property_118 f_MO_7 k3 rfl ?_
              refine w_aload_n d_MO_property_121 rfl rfl ?_
              refine w_get d_MO_property_122 f_MO_86 k3 rfl ?_
              refine w_iald d_MO_property_125 tp3 (vp_in_nI (by omega) (by decide)) ?_
              refine w_topi (y := nI y) (by rw [nI_clamp (by omega)]; exact thf _ _ hy) ?_
              refine w_bipush (v := nI 95) d_MO_property_126 (by decide) ?_
              refine w_icmp_eq (tgt := 145) d_MO_property_128 rfl (fun c128 => ?_) (fun c128 => ?_)
              · have c128 := (nI_eq (a := y) (b := 95) (by omega) (by decide)).mp c128
                exact J145 (Or.inr (Or.inr (Or.inl c128)))
              · have c128 : y ≠ 95 := fun z => c128 (by rw [z])
                refine w_aload_n d_MO_property_131 rfl rfl ?_
                refine w_get d_MO_property_132 f_MO_7 k3 rfl ?_
                refine w_aload_n d_MO_property_135 rfl rfl ?_
                refine w_get d_MO_property_136 f_MO_86 k3 rfl ?_
                refine w_iald d_MO_property_139 tp3 (vp_in_nI (by omega) (by decide)) ?_
                refine w_topi (y := nI y) (by rw [nI_clamp (by omega)]; exact thf _ _ hy) ?_
                refine w_bipush (v := nI 45) d_MO_property_140 (by decide) ?_
                refine w_icmp_ne (tgt := 240) d_MO_property_142 rfl (fun c142 => ?_) (fun c142 => ?_)
                · have c142 : y ≠ 45 := fun z => c142 (by rw [z])
                  have hq : g = true → (k, l) = nmR t (t.length - (p + 3)) (p + 3) [] := fun z => by rw [← hstep z, if_neg (by rw [c100]; decide), if_neg (by omega)]
                  exact C h3 k l g k3 k4 (by omega) (k7 k l hq) k8 k10 k9
                · have c142 := (nI_eq (a := y) (b := 45) (by omega) (by decide)).mp c142
                  exact J145 (Or.inr (Or.inr (Or.inr c142)))
        intro hor
        refine w_aload_n d_MO_property_145 rfl rfl ?_
        refine w_get d_MO_property_146 f_MO_7 k3 rfl ?_
        refine w_aload_n d_MO_property_149 rfl rfl ?_
        refine w_get d_MO_property_150 f_MO_86 k3 rfl ?_
        refine w_iald d_MO_property_153 tp3 (vp_in_nI (by omega) (by decide)) ?_
        refine w_topi (y := nI y) (by rw [nI_clamp (by omega)]; exact thf _ _ hy) ?_
        refine w_callS (as := [.int (nI y)]) (st := []) d_MO_property_154 yM_MO_letter l_MO_108 sM_MO_letter rfl rfl (m_MO_letter) (by decide) (by decide) (by decide) (by decide) (Nat.le_of_ble_eq_true rfl) ?_
        rintro _ h9_3 ⟨rfl, e9_3⟩
        rw [e9_3]
        refine w_eq (st' := [.int (bI (ltI (nI y)))]) rfl ?_
        refine w_if_eq (tgt := 227) d_MO_property_157 rfl (fun c157 => ?_) (fun c157 => ?_)
        · have c157 := bI_f c157
          have hst2 : g = true → nmR t (t.length - (k + 1)) (k + 1) l = nmR t (t.length - (p + 3)) (p + 3) [] := fun z => by rw [← hstep z, if_neg (by rw [c157]; decide), if_pos (by rcases hor with z9 | z9; rw [c157] at z9; cases z9; exact z9)]
          refine w_aload_n d_MO_property_227 rfl rfl ?_
          refine w_aload_n d_MO_property_228 rfl rfl ?_
          refine w_get d_MO_property_229 f_MO_86 k3 rfl ?_
          refine w_iconst (v := nI 1) d_MO_property_232 (by decide) ?_
          refine w_iadd d_MO_property_233 ?_
          refine w_topi (y := nI (k + 1)) (nI_1 _) ?_
          refine w_put d_MO_property_234 f_MO_86 rfl k3 rfl rfl rfl ?_
          refine w_nm (fun h4 e4 => ?_)
          have k3_4 := wS_eq e4 k3
          have tp3_4 := wS_ne e4 (by omega) tp3
          refine w_goto (tgt := 77) d_MO_property_237 rfl ?_
          exact ih (k + 1) l h4 g (by omega) (by omega) k3_4 (fun i hi => by rw [wS_off e4 (by omega)]; exact k4 i hi) (fun _ => by omega) hst2 k7 k8 (by omega) (by omega)
        · have c157 := bI_t c157
          have hst2 : g = true → nmR t (t.length - (k + 1)) (k + 1) (l ++ [y ||| 32]) = nmR t (t.length - (p + 3)) (p + 3) [] := fun z => by rw [← hstep z, if_pos c157]
          obtain ⟨y1, y2, y3, y4⟩ := lt_32 hyl c157
          refine w_iload d_MO_property_160 rfl ?_
          refine w_iconst (v := nI 1) d_MO_property_162 (by decide) ?_
          refine w_iadd d_MO_property_163 ?_
          refine w_topi (y := nI (l.length + 1)) (nI_1 _) ?_
          refine w_istore d_MO_property_164 (by decide) ?_
          refine w_pl (pl' := [some (.ref 57), some (.int (nI 1)), some (.int (bI (true))), some (.long (lN (wX9 l))), none, some (.int (nI (l.length + 1))), none]) rfl ?_
          refine w_aload_n d_MO_property_166 rfl rfl ?_
          refine w_get d_MO_property_167 f_MO_7 k3 rfl ?_
          refine w_aload_n d_MO_property_170 rfl rfl ?_
          refine w_get d_MO_property_171 f_MO_86 k3 rfl ?_
          refine w_iald d_MO_property_174 tp3 (vp_in_nI (by omega) (by decide)) ?_
          refine w_topi (y := nI y) (by rw [nI_clamp (by omega)]; exact thf _ _ hy) ?_
          refine w_bipush (v := nI 90) d_MO_property_175 (by decide) ?_
          suffices J204 : WP X M_MO_property (wR 6 0 0) 0 EN 0 0 204 [some (.ref 57), some (.int (nI 1)), some (.int (bI (true))), some (.long (lN (wX9 l))), none, some (.int (nI (l.length + 1))), none] [.int (nI (y ||| 32))] h3 by
            refine w_icmp_gt (tgt := 195) d_MO_property_177 rfl (fun c177 => ?_) (fun c177 => ?_)
            · have c177 : ¬ y ≤ 90 := Nat.not_le.mpr ((nI_ltI (a := 90) (b := y) (by decide) (by omega)).mp c177)
              refine w_aload_n d_MO_property_195 rfl rfl ?_
              refine w_get d_MO_property_196 f_MO_7 k3 rfl ?_
              refine w_aload_n d_MO_property_199 rfl rfl ?_
              refine w_get d_MO_property_200 f_MO_86 k3 rfl ?_
              refine w_iald d_MO_property_203 tp3 (vp_in_nI (by omega) (by decide)) ?_
              refine w_topi (y := nI y) (by rw [nI_clamp (by omega)]; exact thf _ _ hy) ?_
              exact w_topi (by rw [y2 c177]) J204
            · have c177 : y ≤ 90 := Nat.not_lt.mp (fun z => c177 ((nI_ltI (a := 90) (b := y) (by decide) (by omega)).mpr z))
              refine w_aload_n d_MO_property_180 rfl rfl ?_
              refine w_get d_MO_property_181 f_MO_7 k3 rfl ?_
              refine w_aload_n d_MO_property_184 rfl rfl ?_
              refine w_get d_MO_property_185 f_MO_86 k3 rfl ?_
              refine w_iald d_MO_property_188 tp3 (vp_in_nI (by omega) (by decide)) ?_
              refine w_topi (y := nI y) (by rw [nI_clamp (by omega)]; exact thf _ _ hy) ?_
              refine w_bipush (v := nI 32) d_MO_property_189 (by decide) ?_
              refine w_iadd d_MO_property_191 ?_
              refine w_topi (y := nI (y + 32)) (nI_add _ _) ?_
              refine w_goto (tgt := 204) d_MO_property_192 rfl ?_
              exact w_topi (by rw [y1 c177]) J204
          refine w_istore d_MO_property_204 (by decide) ?_
          refine w_pl (pl' := [some (.ref 57), some (.int (nI 1)), some (.int (bI (true))), some (.long (lN (wX9 l))), none, some (.int (nI (l.length + 1))), some (.int (nI (y ||| 32)))]) rfl ?_
          refine w_iload d_MO_property_206 rfl ?_
          refine w_bipush (v := nI 9) d_MO_property_208 (by decide) ?_
          suffices J226 : WP X M_MO_property (wR 6 0 0) 0 EN 0 0 226 [some (.ref 57), some (.int (nI 1)), some (.int (bI (true))), some (.long (lN (wX9 l))), none, some (.int (nI (l.length + 1))), some (.int (nI (y ||| 32)))] [.long (lN (wX9 (l ++ [y ||| 32])))] h3 by
            refine w_icmp_gt (tgt := 225) d_MO_property_210 rfl (fun c210 => ?_) (fun c210 => ?_)
            · have c210 : ¬ l.length + 1 ≤ 9 := Nat.not_le.mpr ((nI_ltI (a := 9) (b := l.length + 1) (by decide) (by omega)).mp c210)
              refine w_lconst (v := lN 0) d_MO_property_225 (by decide) ?_
              exact w_topl (by unfold wX9; rw [if_neg (by rw [List.length_append, List.length_singleton]; exact c210)]) J226
            · have c210 : l.length + 1 ≤ 9 := Nat.not_lt.mp (fun z => c210 ((nI_ltI (a := 9) (b := l.length + 1) (by decide) (by omega)).mpr z))
              refine w_lload_n d_MO_property_213 rfl ?_
              refine w_ldc2 (v := lN 128) d_MO_property_214 k_MO_114 ?_
              refine w_lmul d_MO_property_217 ?_
              refine w_topl (y := lN (wX9 l * 128)) (lN_mul _ _) ?_
              refine w_iload d_MO_property_218 rfl ?_
              refine w_i2l d_MO_property_220 ?_
              refine w_topl (y := lN (y ||| 32)) (nI_l (by omega)) ?_
              refine w_ladd d_MO_property_221 ?_
              refine w_topl (y := lN (wX9 l * 128 + (y ||| 32))) (lN_add _ _) ?_
              refine w_goto (tgt := 226) d_MO_property_222 rfl ?_
              exact w_topl (by unfold wX9; rw [if_pos (by omega), if_pos (by rw [List.length_append, List.length_singleton]; exact c210), wdN_app]) J226
          refine w_lstore_n d_MO_property_226 (by decide) ?_
          refine w_pl (pl' := [some (.ref 57), some (.int (nI 1)), some (.int (bI (true))), some (.long (lN (wX9 (l ++ [y ||| 32])))), none, some (.int (nI (l.length + 1))), some (.int (nI (y ||| 32)))]) rfl ?_
          refine w_aload_n d_MO_property_227 rfl rfl ?_
          refine w_aload_n d_MO_property_228 rfl rfl ?_
          refine w_get d_MO_property_229 f_MO_86 k3 rfl ?_
          refine w_iconst (v := nI 1) d_MO_property_232 (by decide) ?_
          refine w_iadd d_MO_property_233 ?_
          refine w_topi (y := nI (k + 1)) (nI_1 _) ?_
          refine w_put d_MO_property_234 f_MO_86 rfl k3 rfl rfl rfl ?_
          refine w_nm (fun h5 e5 => ?_)
          have k3_5 := wS_eq e5 k3
          have tp3_5 := wS_ne e5 (by omega) tp3
          refine w_goto (tgt := 77) d_MO_property_237 rfl ?_
          refine w_le (pl' := [some (.ref 57), some (.int (nI 1)), some (.int (bI (true))), some (.long (lN (wX9 (l ++ [y ||| 32])))), none, some (.int (nI (l.length + 1))), none]) ⟨rfl, rfl, rfl, rfl, rfl, trivial⟩ ?_
          rw [show l.length + 1 = (l ++ [y ||| 32]).length by rw [List.length_append, List.length_singleton]]
          exact ih (k + 1) (l ++ [y ||| 32]) h5 g (by omega) (by omega) k3_5 (fun i hi => by rw [wS_off e5 (by omega)]; exact k4 i hi) (fun _ => by omega) hst2 k7 (fun z hz => by rcases List.mem_append.mp hz with z9 | z9; exact k8 z z9; rw [List.mem_singleton] at z9; rw [z9]; exact ⟨y3, y4⟩) (by rw [List.length_append, List.length_singleton]; omega) (by omega)
  refine w_aload_n d_MO_property_0 rfl rfl ?_
  refine w_aload_n d_MO_property_1 rfl rfl ?_
  refine w_get d_MO_property_2 f_MO_86 hx rfl ?_
  refine w_bipush (v := nI 91) d_MO_property_5 (by decide) ?_
  refine w_callV (as := [.int (nI p), .int (nI 91)]) (st := []) d_MO_property_7 yM_MO_is l_MO_83 vM_MO_is hx rfl rfl rfl rfl (m_MO_is hx htx ht31 (by omega) (by decide)) (by decide) (by decide) (by decide) (by decide) (Nat.le_of_ble_eq_true rfl) ?_
  rintro _ h9_6 ⟨rfl, e9_6⟩
  rw [e9_6]
  refine w_eq (st' := [.int (bI (decide (t[p]? = some 91)))]) rfl ?_
  refine w_topi (y := nI 1) (by rw [decide_eq_true hc0]; rfl) ?_
  refine w_istore_n d_MO_property_10 (by decide) ?_
  refine w_pl (pl' := [some (.ref 57), some (.int (nI 1)), none, none, none, none, none]) rfl ?_
  refine w_aload_n d_MO_property_11 rfl rfl ?_
  refine w_aload_n d_MO_property_12 rfl rfl ?_
  refine w_get d_MO_property_13 f_MO_86 hx rfl ?_
  refine w_iconst (v := nI 1) d_MO_property_16 (by decide) ?_
  refine w_iadd d_MO_property_17 ?_
  refine w_topi (y := nI (p + 1)) (nI_add _ _) ?_
  refine w_bipush (v := nI 80) d_MO_property_18 (by decide) ?_
  refine w_callV (as := [.int (nI (p + 1)), .int (nI 80)]) (st := []) d_MO_property_20 yM_MO_is l_MO_83 vM_MO_is hx rfl rfl rfl rfl (m_MO_is hx htx ht31 (by omega) (by decide)) (by decide) (by decide) (by decide) (by decide) (Nat.le_of_ble_eq_true rfl) ?_
  rintro _ h9_7 ⟨rfl, e9_7⟩
  rw [e9_7]
  refine w_eq (st' := [.int (bI (decide (t[p + 1]? = some 80)))]) rfl ?_
  refine w_topi (y := nI 0) (by rw [decide_eq_false (by rw [hc1]; decide)]; rfl) ?_
  refine w_istore_n d_MO_property_23 (by decide) ?_
  refine w_pl (pl' := [some (.ref 57), some (.int (nI 1)), some (.int (nI 0)), none, none, none, none]) rfl ?_
  refine w_aload_n d_MO_property_24 rfl rfl ?_
  refine w_aload_n d_MO_property_25 rfl rfl ?_
  refine w_get d_MO_property_26 f_MO_86 hx rfl ?_
  refine w_iconst (v := nI 2) d_MO_property_29 (by decide) ?_
  refine w_iadd d_MO_property_30 ?_
  refine w_topi (y := nI (p + 2)) (nI_add _ _) ?_
  refine w_put d_MO_property_31 f_MO_86 rfl hx rfl rfl rfl ?_
  refine w_nm (fun h8 e8 => ?_)
  have hx_8 := wS_eq e8 hx
  have tp_8 := wS_ne e8 (by omega) tp
  refine w_iload_n d_MO_property_34 rfl ?_
  refine w_if_ne (tgt := 47) d_MO_property_35 rfl (fun _ => ?_) (fun z => absurd z (by decide))
  refine w_aload_n d_MO_property_47 rfl rfl ?_
  refine w_aload_n d_MO_property_48 rfl rfl ?_
  refine w_get d_MO_property_49 f_MO_86 hx_8 rfl ?_
  refine w_bipush (v := nI 94) d_MO_property_52 (by decide) ?_
  have hk1 : ∀ i, i ≠ 57 → h8[i]? = h[i]? := fun i hi => by rw [wS_off e8 (by omega)]
  refine w_callV (as := [.int (nI (p + 2)), .int (nI 94)]) (st := []) d_MO_property_54 yM_MO_is l_MO_83 vM_MO_is hx_8 rfl rfl rfl rfl (m_MO_is hx_8 (htx.keep hk1) ht31 (by omega) (by decide)) (by decide) (by decide) (by decide) (by decide) (Nat.le_of_ble_eq_true rfl) ?_
  rintro _ h9_9 ⟨rfl, e9_9⟩
  rw [e9_9]
  refine w_eq (st' := [.int (bI (decide (t[p + 2]? = some 94)))]) rfl ?_
  refine w_if_eq (tgt := 72) d_MO_property_57 rfl (fun z => absurd z (by rw [decide_eq_true hc2]; decide)) (fun _ => ?_)
  refine w_iconst (v := nI 1) d_MO_property_60 (by decide) ?_
  refine w_istore_n d_MO_property_61 (by decide) ?_
  refine w_pl (pl' := [some (.ref 57), some (.int (nI 1)), some (.int (nI 1)), none, none, none, none]) rfl ?_
  refine w_aload_n d_MO_property_62 rfl rfl ?_
  refine w_aload_n d_MO_property_63 rfl rfl ?_
  refine w_get d_MO_property_64 f_MO_86 hx_8 rfl ?_
  refine w_iconst (v := nI 1) d_MO_property_67 (by decide) ?_
  refine w_iadd d_MO_property_68 ?_
  refine w_topi (y := nI (p + 3)) (nI_1 _) ?_
  refine w_put d_MO_property_69 f_MO_86 rfl hx_8 rfl rfl rfl ?_
  refine w_nm (fun h10 e10 => ?_)
  have hx_10 := wS_eq e10 hx_8
  have tp_10 := wS_ne e10 (by omega) tp_8
  refine w_lconst (v := lN 0) d_MO_property_72 (by decide) ?_
  refine w_lstore_n d_MO_property_73 (by decide) ?_
  refine w_pl (pl' := [some (.ref 57), some (.int (nI 1)), some (.int (nI 1)), some (.long (lN 0)), none, none, none]) rfl ?_
  refine w_iconst (v := nI 0) d_MO_property_74 (by decide) ?_
  refine w_istore d_MO_property_75 (by decide) ?_
  refine w_pl (pl' := [some (.ref 57), some (.int (nI 1)), some (.int (nI 1)), some (.long (lN 0)), none, some (.int (nI 0)), none]) rfl ?_
  exact L (t.length + 1) (p + 3) [] h10 true (by omega) (by omega) hx_10 (fun i hi => by rw [wS_off e10 (by omega), wS_off e8 (by omega)]) (fun _ => by omega) (fun _ => rfl) (fun k2 l2 hq => by rw [hx0, hlx, ← hq rfl]; simp only [lxOpen2, true_and]) (fun y hy => by cases hy) (Nat.zero_le _) (by omega)
set_option maxHeartbeats 4000000 in
set_option maxRecDepth 100000 in
theorem m_MO_propB0 {h : wH} {t : List Nat} {dp wr fi : Int32} {p : Nat} (hx : h[57]? = some (.inr (7, [.ref 58, .int (nI t.length), .ref 59, .ref 60, .ref 61, .ref 62, .int (nI p), .int (nI 1), .int (dp), .ref 63, .ref 64, .ref 65, .ref 66, .int (wr), .int (fi), .ref 67]))) (htx : mT h t) (ht31 : ∀ x ∈ t, x < 1114112) {EE SS : Nat → List Nat} (hE : mE h EE SS) (h11 : EE 11 = [0, 1114112]) (s11 : SS 11 = []) (hp : p < 2 ^ 10) (hc0 : t[p]? = some 91) (hc1 : t[p + 1]? = some 58) (hc2 : ¬ t[p + 2]? = some 94) : PM X M_MO_property 6 0 0 [.ref 57] h (ppQ (pX t p) t p dp wr fi EE SS h) := by
  obtain ⟨tf, tp, t60, thf⟩ := id htx
  have hl1 := lx_lt hc1
  have hlx : pX t p = lxOpen2 t p false (nmR t (t.length - (p + 2)) (p + 2) []) := by unfold pX; rw [hc0]; show lxOpen t p = _; unfold lxOpen; rw [if_neg (by rw [hc1]; decide), if_pos hc1, decide_eq_false hc2]; rfl
  obtain ⟨x, hx0⟩ : ∃ x, x = pX t p := ⟨_, rfl⟩
  rw [← hx0]
  refine PM.at (pl := [some (.ref 57), none, none, none, none, none, none]) rfl rfl (by simp [wle, wen]) ?_
  generalize hEN : wEm X 0 0 _ = EN
  have C : ∀ (h3 : wH) (k : Nat) (l : List Nat) (g : Bool), (h3[57]? = some (.inr (7, [.ref 58, .int (nI t.length), .ref 59, .ref 60, .ref 61, .ref 62, .int (nI k), .int (bI g), .int (dp), .ref 63, .ref 64, .ref 65, .ref 66, .int (wr), .int (fi), .ref 67]))) → (∀ i, i ≠ 57 → h3[i]? = h[i]?) → (k < 2 ^ 11) → (x = if g = true ∧ t[k]? = some 58 ∧ t[k + 1]? = some 93 then lxProp false l (k + 2 - p) else none) → (∀ y ∈ l, 1 ≤ y ∧ y < 128) → (l.length ≤ k) → (p ≤ k) → WP X M_MO_property (wR 6 0 0) 0 EN 0 0 240 [some (.ref 57), some (.int (nI 1)), some (.int (bI (false))), some (.long (lN (wX9 l))), none, some (.int (nI (l.length))), none] [] h3 := by
    intro h3 k l g k3 k4 k5 k6 k7 k8 k9
    refine w_iload_n d_MO_property_240 rfl ?_
    refine w_if_eq (tgt := 259) d_MO_property_241 rfl (fun z => absurd z (by decide)) (fun _ => ?_)
    refine w_aload_n d_MO_property_244 rfl rfl ?_
    refine w_bipush (v := nI 58) d_MO_property_245 (by decide) ?_
    have tk3 := htx.keep k4
    refine w_callV (as := [.int (nI 58)]) (st := []) d_MO_property_247 yM_MO_expect l_MO_105 vM_MO_expect k3 rfl rfl rfl rfl (m_MO_expect (g0 := g) (k := k) (c := 58) k3 (htx.keep k4) ht31 (by omega) (by decide)) (by decide) (by decide) (by decide) (by decide) (Nat.le_of_ble_eq_true rfl) ?_
    rintro _ h4 ⟨rfl, x1, y1⟩
    refine w_eq (st' := []) rfl ?_
    have K1 : ∀ i, i ≠ 57 → h4[i]? = h[i]? := fun i hi => (y1 i hi).trans (k4 i hi)
    refine w_aload_n d_MO_property_250 rfl rfl ?_
    refine w_bipush (v := nI 93) d_MO_property_251 (by decide) ?_
    refine w_callV (as := [.int (nI 93)]) (st := []) d_MO_property_253 yM_MO_expect l_MO_105 vM_MO_expect x1 rfl rfl rfl rfl (m_MO_expect (g0 := g && decide (t[k]? = some 58)) (k := k + 1) (c := 93) x1 (htx.keep K1) ht31 (by omega) (by decide)) (by decide) (by decide) (by decide) (by decide) (Nat.le_of_ble_eq_true rfl) ?_
    rintro _ h5 ⟨rfl, x2, y2⟩
    refine w_eq (st' := []) rfl ?_
    have K2 : ∀ i, i ≠ 57 → h5[i]? = h[i]? := fun i hi => (y2 i hi).trans (K1 i hi)
    refine w_goto (tgt := 265) d_MO_property_256 rfl ?_
    refine w_aload_n d_MO_property_265 rfl rfl ?_
    refine w_aload_n d_MO_property_266 rfl rfl ?_
    refine w_get d_MO_property_267 f_MO_93 x2 rfl ?_
    suffices J285 : WP X M_MO_property (wR 6 0 0) 0 EN 0 0 285 [some (.ref 57), some (.int (nI 1)), some (.int (bI (false))), some (.long (lN (wX9 l))), none, some (.int (nI (l.length))), none] [.int (bI (g && decide (t[k]? = some 58) && decide (t[k + 1]? = some 93) && decide (l.length ≤ 9))), .ref 57] h5 by
      refine w_if_eq (tgt := 284) d_MO_property_270 rfl (fun c270 => ?_) (fun c270 => ?_)
      · have c270 := bI_f c270
        refine w_iconst (v := nI 0) d_MO_property_284 (by decide) ?_
        exact w_topi (by rw [c270]; rfl) J285
      · have c270 := bI_t c270
        refine w_iload d_MO_property_273 rfl ?_
        refine w_bipush (v := nI 9) d_MO_property_275 (by decide) ?_
        refine w_icmp_gt (tgt := 284) d_MO_property_277 rfl (fun c277 => ?_) (fun c277 => ?_)
        · have c277 : ¬ l.length ≤ 9 := Nat.not_le.mpr ((nI_ltI (a := 9) (b := l.length) (by decide) (by omega)).mp c277)
          refine w_iconst (v := nI 0) d_MO_property_284 (by decide) ?_
          exact w_topi (by rw [c270, decide_eq_false c277]; rfl) J285
        · have c277 : l.length ≤ 9 := Nat.not_lt.mp (fun z => c277 ((nI_ltI (a := 9) (b := l.length) (by decide) (by omega)).mpr z))
          refine w_iconst (v := nI 1) d_MO_property_280 (by decide) ?_
          refine w_goto (tgt := 285) d_MO_property_281 rfl ?_
          exact w_topi (by rw [c270, decide_eq_true c277]; rfl) J285
    refine w_put d_MO_property_285 f_MO_93 rfl x2 rfl (bI_nar _) (bI_fit _) ?_
    refine w_nm (fun h1 e1 => ?_)
    have x2_1 := wS_eq e1 x2
    refine w_aload_n d_MO_property_288 rfl rfl ?_
    refine w_bipush (v := nI 8) d_MO_property_289 (by decide) ?_
    have K3 : ∀ i, i ≠ 57 → h1[i]? = h[i]? := fun i hi => by rw [wS_off e1 (by omega)]; exact K2 i hi
    refine w_callV (as := [.int (nI 8)]) (st := []) d_MO_property_291 yM_MO_empty l_MO_48 vM_MO_empty x2_1 rfl rfl rfl rfl (m_MO_empty x2_1 (hE.keep K3) (t := 8) (by decide)) (by decide) (by decide) (by decide) (by decide) (Nat.le_of_ble_eq_true rfl) ?_
    rintro _ h6 ⟨rfl, e6, o6⟩
    refine w_eq (st' := []) rfl ?_
    have x6 := (o6 57 (by omega)).trans x2_1
    have K6 : ∀ j, j ≠ 57 → (j < 59 ∨ 63 ≤ j) → h6[j]? = h[j]? := fun j h1 h2 => (o6 j (by omega)).trans (K3 j h1)
    have f8 : va_up EE 8 [] 8 = [] := if_pos rfl
    have s8 : va_up SS 8 [] 8 = [] := if_pos rfl
    have fj : ∀ j, j < 8 ∨ j = 11 → va_up EE 8 [] j = EE j ∧ va_up SS 8 [] j = SS j := fun j hj => ⟨if_neg (by omega), if_neg (by omega)⟩
    refine w_aload_n d_MO_property_294 rfl rfl ?_
    refine w_get d_MO_property_295 f_MO_93 x6 rfl ?_
    refine w_if_eq (tgt := 306) d_MO_property_298 rfl (fun c298 => ?_) (fun c298 => ?_)
    · have c298 := bI_f c298
      have hxn : x = none := by
        rw [k6]
        split
        · rename_i hc
          refine lxProp_no (nmN_9 fun z => ?_)
          rw [decide_eq_true z] at c298
          rw [decide_eq_true hc.2.1, decide_eq_true hc.2.2, hc.1] at c298
          cases c298
        · rfl
      refine w_aload_n d_MO_property_306 rfl rfl ?_
      refine w_get d_MO_property_307 f_MO_93 x6 rfl ?_
      refine w_if_eq (tgt := 326) d_MO_property_310 rfl (fun _ => ?_) (fun z => absurd (by rw [c298]; rfl) z)
      rw [← hEN]
      refine w_vret d_MO_property_326 rfl ?_
      rw [c298] at x6
      rw [hxn]
      exact ⟨rfl, K6, _, _, _, x6, e6, fj, by omega, fun q w z => by cases z⟩
    · have c298 := bI_t c298
      simp only [Bool.and_eq_true, decide_eq_true_eq] at c298
      rw [if_pos ⟨c298.1.1.1, c298.1.1.2, c298.1.2⟩] at k6
      have hX9 : wX9 l = wdN l := if_pos c298.2
      rw [show (g && decide (t[k]? = some 58) && decide (t[k + 1]? = some 93) && decide (l.length ≤ 9)) = true by simp only [Bool.and_eq_true, decide_eq_true_eq]; exact c298] at x6
      refine w_aload_n d_MO_property_301 rfl rfl ?_
      refine w_lload_n d_MO_property_302 rfl ?_
      refine w_topl (y := lN (wdN l)) (by rw [hX9]) ?_
      refine w_callV (as := [.long (lN (wdN l))]) (st := []) d_MO_property_303 yM_MO_fillNamed l_MO_116 vM_MO_fillNamed x6 rfl rfl rfl rfl (m_MO_fill (wr := wr) x6 e6 f8 s8 (l := l) c298.2 k7) (by decide) (by decide) (by decide) (by decide) (Nat.le_of_ble_eq_true rfl) ?_
      rintro _ h7 ⟨rfl, o7, x7, F7, T7, e7, j7, q7⟩
      refine w_eq (st' := []) rfl ?_
      refine w_aload_n d_MO_property_306 rfl rfl ?_
      refine w_get d_MO_property_307 f_MO_93 x7 rfl ?_
      refine w_if_eq (tgt := 326) d_MO_property_310 rfl (fun c310 => ?_) (fun c310 => ?_)
      · have c310 := Decidable.not_not.mp (of_decide_eq_false (bI_f c310))
        rw [lxProp_no c310] at k6
        rw [← hEN]
        refine w_vret d_MO_property_326 rfl ?_
        first
        | (rw [decide_eq_false (fun z => z c310)] at x7
           rw [k6]
           exact ⟨rfl, fun j h1 h2 => (o7 j h1 h2).trans (K6 j h1 h2), _, _, _, x7, e7, fun j hj => ⟨(j7 j hj).1.trans (fj j hj).1, (j7 j hj).2.trans (fj j hj).2⟩, by omega, fun q w z => by cases z⟩)
        | (rw [decide_eq_true c310] at x7
           rw [k6]
           refine ⟨rfl, fun j h1 h2 => (o7 j h1 h2).trans (K6 j h1 h2), _, _, _, x7, e7, fun j hj => ⟨(j7 j hj).1.trans (fj j hj).1, (j7 j hj).2.trans (fj j hj).2⟩, by omega, fun q w z => ?_⟩
           cases z
           refine ⟨by omega, ?_, r8⟩
           rw [q8, if_neg (fun z => absurd (c314.symm.trans z) (by decide)), pTab_f])
      · have c310 := of_decide_eq_true (bI_t c310)
        obtain ⟨q8, r8⟩ := q7 c310
        rw [lxProp_yes c310] at k6
        refine w_iload_n d_MO_property_313 rfl ?_
        refine w_if_eq (tgt := 326) d_MO_property_314 rfl (fun c314 => ?_) (fun c314 => ?_)
        · have c314 := bI_f c314
          rw [← hEN]
          refine w_vret d_MO_property_326 rfl ?_
          first
          | (rw [decide_eq_false (fun z => z c310)] at x7
             rw [k6]
             exact ⟨rfl, fun j h1 h2 => (o7 j h1 h2).trans (K6 j h1 h2), _, _, _, x7, e7, fun j hj => ⟨(j7 j hj).1.trans (fj j hj).1, (j7 j hj).2.trans (fj j hj).2⟩, by omega, fun q w z => by cases z⟩)
          | (rw [decide_eq_true c310] at x7
             rw [k6]
             refine ⟨rfl, fun j h1 h2 => (o7 j h1 h2).trans (K6 j h1 h2), _, _, _, x7, e7, fun j hj => ⟨(j7 j hj).1.trans (fj j hj).1, (j7 j hj).2.trans (fj j hj).2⟩, by omega, fun q w z => ?_⟩
             cases z
             refine ⟨by omega, ?_, r8⟩
             rw [q8, if_neg (fun z => absurd (c314.symm.trans z) (by decide)), pTab_f])
        · have c314 := bI_t c314
          refine w_aload_n d_MO_property_317 rfl rfl ?_
          refine w_bipush (v := nI 8) d_MO_property_318 (by decide) ?_
          refine w_bipush (v := nI 11) d_MO_property_320 (by decide) ?_
          refine w_iconst (v := nI 3) d_MO_property_322 (by decide) ?_
          refine w_callV (as := [.int (nI 8), .int (nI 11), .int (nI 3)]) (st := []) d_MO_property_323 yM_MO_join l_MO_80 vM_MO_join x7 rfl rfl rfl rfl (m_MO_join (t := 8) (b := 11) (how := 3) x7 e7 (by decide) (by decide) (by decide) (by decide) (by decide) (by rw [q8]; exact rTab_ok c310) (by rw [(j7 11 (Or.inr rfl)).1, (fj 11 (Or.inr rfl)).1, h11]; exact ⟨(by unfold eAsc; decide), (by decide)⟩) (by rw [q8, (j7 11 (Or.inr rfl)).1, (fj 11 (Or.inr rfl)).1, h11]; exact rTab_len c310) (by rw [r8]; intro y hy; cases hy) (by rw [(j7 11 (Or.inr rfl)).2, (fj 11 (Or.inr rfl)).2, s11]; intro y hy; cases hy) (by rw [r8, (j7 11 (Or.inr rfl)).2, (fj 11 (Or.inr rfl)).2, s11]; decide)) (by decide) (by decide) (by decide) (by decide) (Nat.le_of_ble_eq_true rfl) ?_
          rintro _ h8 ⟨rfl, o8, F8, T8, e8, u8, v8, j8⟩
          refine w_eq (st' := []) rfl ?_
          have x8 := (o8 57 (by omega)).trans x7
          rw [← hEN]
          refine w_vret d_MO_property_326 rfl ?_
          rw [decide_eq_true c310] at x8
          rw [k6]
          refine ⟨rfl, fun j h1 h2 => (o8 j (by omega)).trans ((o7 j h1 h2).trans (K6 j h1 h2)), _, _, _, x8, e8, fun j hj => ?_, by omega, fun q w z => ?_⟩
          · have a1 := j8 j (by omega) (by omega)
            have a2 := j7 j hj
            have a3 := fj j hj
            exact ⟨a1.1.trans (a2.1.trans a3.1), a1.2.trans (a2.2.trans a3.2)⟩
          · cases z
            refine ⟨by omega, ?_, ?_⟩
            · rw [u8, q8, (j7 11 (Or.inr rfl)).1, (fj 11 (Or.inr rfl)).1, h11, if_pos c314, pTab_t]
            · rw [v8, r8, (j7 11 (Or.inr rfl)).2, (fj 11 (Or.inr rfl)).2, s11]; rfl
  have L : ∀ (n : Nat) (k : Nat) (l : List Nat) (h3 : wH) (g : Bool), (t.length - k < n) → (k < 2 ^ 10 + 4 ∨ k ≤ t.length) → (h3[57]? = some (.inr (7, [.ref 58, .int (nI t.length), .ref 59, .ref 60, .ref 61, .ref 62, .int (nI k), .int (bI g), .int (dp), .ref 63, .ref 64, .ref 65, .ref 66, .int (wr), .int (fi), .ref 67]))) → (∀ i, i ≠ 57 → h3[i]? = h[i]?) → (g = true → k ≤ t.length) → (g = true → nmR t (t.length - k) k l = nmR t (t.length - (p + 2)) (p + 2) []) → (∀ k2 l2, (g = true → (k2, l2) = nmR t (t.length - (p + 2)) (p + 2) []) → x = (fun k l => if g = true ∧ t[k]? = some 58 ∧ t[k + 1]? = some 93 then lxProp false l (k + 2 - p) else none) k2 l2) → (∀ y ∈ l, 1 ≤ y ∧ y < 128) → (l.length ≤ k) → (p ≤ k) → WP X M_MO_property (wR 6 0 0) 0 EN 0 0 77 [some (.ref 57), some (.int (nI 1)), some (.int (bI (false))), some (.long (lN (wX9 l))), none, some (.int (nI (l.length))), none] [] h3 := by
    intro n
    induction n with
    | zero => intro k l h3 g k1 k2 k3 k4 k5 k6 k7 k8 k10 k9; omega
    | succ n ih =>
      intro k l h3 g k1 k2 k3 k4 k5 k6 k7 k8 k10 k9
      have tp3 := (k4 58 (by omega)).trans tp
      refine w_aload_n d_MO_property_77 rfl rfl ?_
      refine w_get d_MO_property_78 f_MO_86 k3 rfl ?_
      refine w_aload_n d_MO_property_81 rfl rfl ?_
      refine w_get d_MO_property_82 f_MO_43 k3 rfl ?_
      refine w_icmp_ge (tgt := 240) d_MO_property_85 rfl (fun c85 => ?_) (fun c85 => ?_)
      · have c85 := (nI_leI (a := t.length) (b := k) (by omega) (by omega)).mp c85
        have hq : g = true → (k, l) = nmR t (t.length - (p + 2)) (p + 2) [] := fun z => by rw [← k6 z, show t.length - k = 0 by omega, show k = t.length by have := k5 z; omega]; rfl
        exact C h3 k l g k3 k4 (by omega) (k7 k l hq) k8 k10 k9
      · have c85 : k < t.length := Nat.not_le.mp (fun z => c85 ((nI_leI (a := t.length) (b := k) (by omega) (by omega)).mpr z))
        obtain ⟨y, hy⟩ := t_at c85
        have hyl := ht31 y (List.mem_of_getElem? hy)
        have hstep : ∀ z : g = true, (if ltI (nI y) = true then nmR t (t.length - (k + 1)) (k + 1) (l ++ [y ||| 32]) else if y = 32 ∨ y = 95 ∨ y = 45 then nmR t (t.length - (k + 1)) (k + 1) l else (k, l)) = nmR t (t.length - (p + 2)) (p + 2) [] := fun z => by
          rw [← k6 z, show t.length - k = (t.length - (k + 1)) + 1 by omega]
          conv => rhs; unfold nmR
          rw [hy]
        refine w_aload_n d_MO_property_88 rfl rfl ?_
        refine w_get d_MO_property_89 f_MO_7 k3 rfl ?_
        refine w_aload_n d_MO_property_92 rfl rfl ?_
        refine w_get d_MO_property_93 f_MO_86 k3 rfl ?_
        refine w_iald d_MO_property_96 tp3 (vp_in_nI (by omega) (by decide)) ?_
        refine w_topi (y := nI y) (by rw [nI_clamp (by omega)]; exact thf _ _ hy) ?_
        refine w_callS (as := [.int (nI y)]) (st := []) d_MO_property_97 yM_MO_letter l_MO_108 sM_MO_letter rfl rfl (m_MO_letter) (by decide) (by decide) (by decide) (by decide) (Nat.le_of_ble_eq_true rfl) ?_
        rintro _ h9_2 ⟨rfl, e9_2⟩
        rw [e9_2]
        refine w_eq (st' := [.int (bI (ltI (nI y)))]) rfl ?_
        suffices J145 : (ltI (nI y) = true ∨ y = 32 ∨ y = 95 ∨ y = 45) → WP X M_MO_property (wR 6 0 0) 0 EN 0 0 145 [some (.ref 57), some (.int (nI 1)), some (.int (bI (false))), some (.long (lN (wX9 l))), none, some (.int (nI (l.length))), none] [] h3 by
          refine w_if_ne (tgt := 145) d_MO_property_100 rfl (fun c100 => ?_) (fun c100 => ?_)
          · have c100 := bI_t c100
            exact J145 (Or.inl c100)
          · have c100 := bI_f c100
            refine w_aload_n d_MO_property_103 rfl rfl ?_
            refine w_get d_MO_property_104 f_MO_7 k3 rfl ?_
            refine w_aload_n d_MO_property_107 rfl rfl ?_
            refine w_get d_MO_property_108 f_MO_86 k3 rfl ?_
            refine w_iald d_MO_property_111 tp3 (vp_in_nI (by omega) (by decide)) ?_
            refine w_topi (y := nI y) (by rw [nI_clamp (by omega)]; exact thf _ _ hy) ?_
            refine w_bipush (v := nI 32) d_MO_property_112 (by decide) ?_
            refine w_icmp_eq (tgt := 145) d_MO_property_114 rfl (fun c114 => ?_) (fun c114 => ?_)
            · have c114 := (nI_eq (a := y) (b := 32) (by omega) (by decide)).mp c114
              exact J145 (Or.inr (Or.inl c114))
            · have c114 : y ≠ 32 := fun z => c114 (by rw [z])
              refine w_aload_n d_MO_property_117 rfl rfl ?_
              refine w_get d_MO_property_118 f_MO_7 k3 rfl ?_
              refine w_aload_n d_MO_property_121 rfl rfl ?_
              refine w_get d_MO_property_122 f_MO_86 k3 rfl ?_
              refine w_iald d_MO_property_125 tp3 (vp_in_nI (by omega) (by decide)) ?_
              refine w_topi (y := nI y) (by rw [nI_clamp (by omega)]; exact thf _ _ hy) ?_
              refine w_bipush (v := nI 95) d_MO_property_126 (by decide) ?_
              refine w_icmp_eq (tgt := 145) d_MO_property_128 rfl (fun c128 => ?_) (fun c128 => ?_)
              · have c128 := (nI_eq (a := y) (b := 95) (by omega) (by decide)).mp c128
                exact J145 (Or.inr (Or.inr (Or.inl c128)))
              · have c128 : y ≠ 95 := fun z => c128 (by rw [z])
                refine w_aload_n d_MO_property_131 rfl rfl ?_
                refine w_get d_MO_property_132 f_MO_7 k3 rfl ?_
                refine w_aload_n d_MO_property_135 rfl rfl ?_
                refine w_get d_MO_property_136 f_MO_86 k3 rfl ?_
                refine w_iald d_MO_property_139 tp3 (vp_in_nI (by omega) (by decide)) ?_
                refine w_topi (y := nI y) (by rw [nI_clamp (by omega)]; exact thf _ _ hy) ?_
                refine w_bipush (v := nI 45) d_MO_property_140 (by decide) ?_
                refine w_icmp_ne (tgt := 240) d_MO_property_142 rfl (fun c142 => ?_) (fun c142 => ?_)
                · have c142 : y ≠ 45 := fun z => c142 (by rw [z])
                  have hq : g = true → (k, l) = nmR t (t.length - (p + 2)) (p + 2) [] := fun z => by rw [← hstep z, if_neg (by rw [c100]; decide), if_neg (by omega)]
                  exact C h3 k l g k3 k4 (by omega) (k7 k l hq) k8 k10 k9
                · have c142 := (nI_eq (a := y) (b := 45) (by omega) (by decide)).mp c142
                  exact J145 (Or.inr (Or.inr (Or.inr c142)))
        intro hor
        refine w_aload_n d_MO_property_145 rfl rfl ?_
        refine w_get d_MO_property_146 f_MO_7 k3 rfl ?_
        refine w_aload_n d_MO_property_149 rfl rfl ?_
        refine w_get d_MO_property_150 f_MO_86 k3 rfl ?_
        refine w_iald d_MO_property_153 tp3 (vp_in_nI (by omega) (by decide)) ?_
        refine w_topi (y := nI y) (by rw [nI_clamp (by omega)]; exact thf _ _ hy) ?_
        refine w_callS (as := [.int (nI y)]) (st := []) d_MO_property_154 yM_MO_letter l_MO_108 sM_MO_letter rfl rfl (m_MO_letter) (by decide) (by decide) (by decide) (by decide) (Nat.le_of_ble_eq_true rfl) ?_
        rintro _ h9_3 ⟨rfl, e9_3⟩
        rw [e9_3]
        refine w_eq (st' := [.int (bI (ltI (nI y)))]) rfl ?_
        refine w_if_eq (tgt := 227) d_MO_property_157 rfl (fun c157 => ?_) (fun c157 => ?_)
        · have c157 := bI_f c157
          have hst2 : g = true → nmR t (t.length - (k + 1)) (k + 1) l = nmR t (t.length - (p + 2)) (p + 2) [] := fun z => by rw [← hstep z, if_neg (by rw [c157]; decide), if_pos (by rcases hor with z9 | z9; rw [c157] at z9; cases z9; exact z9)]
          refine w_aload_n d_MO_property_227 rfl rfl ?_
          refine w_aload_n d_MO_property_228 rfl rfl ?_
          refine w_get d_MO_property_229 f_MO_86 k3 rfl ?_
          refine w_iconst (v := nI 1) d_MO_property_232 (by decide) ?_
          refine w_iadd d_MO_property_233 ?_
          refine w_topi (y := nI (k + 1)) (nI_1 _) ?_
          refine w_put d_MO_property_234 f_MO_86 rfl k3 rfl rfl rfl ?_
          refine w_nm (fun h4 e4 => ?_)
          have k3_4 := wS_eq e4 k3
          have tp3_4 := wS_ne e4 (by omega) tp3
          refine w_goto (tgt := 77) d_MO_property_237 rfl ?_
          exact ih (k + 1) l h4 g (by omega) (by omega) k3_4 (fun i hi => by rw [wS_off e4 (by omega)]; exact k4 i hi) (fun _ => by omega) hst2 k7 k8 (by omega) (by omega)
        · have c157 := bI_t c157
          have hst2 : g = true → nmR t (t.length - (k + 1)) (k + 1) (l ++ [y ||| 32]) = nmR t (t.length - (p + 2)) (p + 2) [] := fun z => by rw [← hstep z, if_pos c157]
          obtain ⟨y1, y2, y3, y4⟩ := lt_32 hyl c157
          refine w_iload d_MO_property_160 rfl ?_
          refine w_iconst (v := nI 1) d_MO_property_162 (by decide) ?_
          refine w_iadd d_MO_property_163 ?_
          refine w_topi (y := nI (l.length + 1)) (nI_1 _) ?_
          refine w_istore d_MO_property_164 (by decide) ?_
          refine w_pl (pl' := [some (.ref 57), some (.int (nI 1)), some (.int (bI (false))), some (.long (lN (wX9 l))), none, some (.int (nI (l.length + 1))), none]) rfl ?_
          refine w_aload_n d_MO_property_166 rfl rfl ?_
          refine w_get d_MO_property_167 f_MO_7 k3 rfl ?_
          refine w_aload_n d_MO_property_170 rfl rfl ?_
          refine w_get d_MO_property_171 f_MO_86 k3 rfl ?_
          refine w_iald d_MO_property_174 tp3 (vp_in_nI (by omega) (by decide)) ?_
          refine w_topi (y := nI y) (by rw [nI_clamp (by omega)]; exact thf _ _ hy) ?_
          refine w_bipush (v := nI 90) d_MO_property_175 (by decide) ?_
          suffices J204 : WP X M_MO_property (wR 6 0 0) 0 EN 0 0 204 [some (.ref 57), some (.int (nI 1)), some (.int (bI (false))), some (.long (lN (wX9 l))), none, some (.int (nI (l.length + 1))), none] [.int (nI (y ||| 32))] h3 by
            refine w_icmp_gt (tgt := 195) d_MO_property_177 rfl (fun c177 => ?_) (fun c177 => ?_)
            · have c177 : ¬ y ≤ 90 := Nat.not_le.mpr ((nI_ltI (a := 90) (b := y) (by decide) (by omega)).mp c177)
              refine w_aload_n d_MO_property_195 rfl rfl ?_
              refine w_get d_MO_property_196 f_MO_7 k3 rfl ?_
              refine w_aload_n d_MO_property_199 rfl rfl ?_
              refine w_get d_MO_property_200 f_MO_86 k3 rfl ?_
              refine w_iald d_MO_property_203 tp3 (vp_in_nI (by omega) (by decide)) ?_
              refine w_topi (y := nI y) (by rw [nI_clamp (by omega)]; exact thf _ _ hy) ?_
              exact w_topi (by rw [y2 c177]) J204
            · have c177 : y ≤ 90 := Nat.not_lt.mp (fun z => c177 ((nI_ltI (a := 90) (b := y) (by decide) (by omega)).mpr z))
              refine w_aload_n d_MO_property_180 rfl rfl ?_
              refine w_get d_MO_property_181 f_MO_7 k3 rfl ?_
              refine w_aload_n d_MO_property_184 rfl rfl ?_
              refine w_get d_MO_property_185 f_MO_86 k3 rfl ?_
              refine w_iald d_MO_property_188 tp3 (vp_in_nI (by omega) (by decide)) ?_
              refine w_topi (y := nI y) (by rw [nI_clamp (by omega)]; exact thf _ _ hy) ?_
              refine w_bipush (v := nI 32) d_MO_property_189 (by decide) ?_
              refine w_iadd d_MO_property_191 ?_
              refine w_topi (y := nI (y + 32)) (nI_add _ _) ?_
              refine w_goto (tgt := 204) d_MO_property_192 rfl ?_
              exact w_topi (by rw [y1 c177]) J204
          refine w_istore d_MO_property_204 (by decide) ?_
          refine w_pl (pl' := [some (.ref 57), some (.int (nI 1)), some (.int (bI (false))), some (.long (lN (wX9 l))), none, some (.int (nI (l.length + 1))), some (.int (nI (y ||| 32)))]) rfl ?_
          refine w_iload d_MO_property_206 rfl ?_
          refine w_bipush (v := nI 9) d_MO_property_208 (by decide) ?_
          suffices J226 : WP X M_MO_property (wR 6 0 0) 0 EN 0 0 226 [some (.ref 57), some (.int (nI 1)), some (.int (bI (false))), some (.long (lN (wX9 l))), none, some (.int (nI (l.length + 1))), some (.int (nI (y ||| 32)))] [.long (lN (wX9 (l ++ [y ||| 32])))] h3 by
            refine w_icmp_gt (tgt := 225) d_MO_property_210 rfl (fun c210 => ?_) (fun c210 => ?_)
            · have c210 : ¬ l.length + 1 ≤ 9 := Nat.not_le.mpr ((nI_ltI (a := 9) (b := l.length + 1) (by decide) (by omega)).mp c210)
              refine w_lconst (v := lN 0) d_MO_property_225 (by decide) ?_
              exact w_topl (by unfold wX9; rw [if_neg (by rw [List.length_append, List.length_singleton]; exact c210)]) J226
            · have c210 : l.length + 1 ≤ 9 := Nat.not_lt.mp (fun z => c210 ((nI_ltI (a := 9) (b := l.length + 1) (by decide) (by omega)).mpr z))
              refine w_lload_n d_MO_property_213 rfl ?_
              refine w_ldc2 (v := lN 128) d_MO_property_214 k_MO_114 ?_
              refine w_lmul d_MO_property_217 ?_
              refine w_topl (y := lN (wX9 l * 128)) (lN_mul _ _) ?_
              refine w_iload d_MO_property_218 rfl ?_
              refine w_i2l d_MO_property_220 ?_
              refine w_topl (y := lN (y ||| 32)) (nI_l (by omega)) ?_
              refine w_ladd d_MO_property_221 ?_
              refine w_topl (y := lN (wX9 l * 128 + (y ||| 32))) (lN_add _ _) ?_
              refine w_goto (tgt := 226) d_MO_property_222 rfl ?_
              exact w_topl (by unfold wX9; rw [if_pos (by omega), if_pos (by rw [List.length_append, List.length_singleton]; exact c210), wdN_app]) J226
          refine w_lstore_n d_MO_property_226 (by decide) ?_
          refine w_pl (pl' := [some (.ref 57), some (.int (nI 1)), some (.int (bI (false))), some (.long (lN (wX9 (l ++ [y ||| 32])))), none, some (.int (nI (l.length + 1))), some (.int (nI (y ||| 32)))]) rfl ?_
          refine w_aload_n d_MO_property_227 rfl rfl ?_
          refine w_aload_n d_MO_property_228 rfl rfl ?_
          refine w_get d_MO_property_229 f_MO_86 k3 rfl ?_
          refine w_iconst (v := nI 1) d_MO_property_232 (by decide) ?_
          refine w_iadd d_MO_property_233 ?_
          refine w_topi (y := nI (k + 1)) (nI_1 _) ?_
          refine w_put d_MO_property_234 f_MO_86 rfl k3 rfl rfl rfl ?_
          refine w_nm (fun h5 e5 => ?_)
          have k3_5 := wS_eq e5 k3
          have tp3_5 := wS_ne e5 (by omega) tp3
          refine w_goto (tgt := 77) d_MO_property_237 rfl ?_
          refine w_le (pl' := [some (.ref 57), some (.int (nI 1)), some (.int (bI (false))), some (.long (lN (wX9 (l ++ [y ||| 32])))), none, some (.int (nI (l.length + 1))), none]) ⟨rfl, rfl, rfl, rfl, rfl, trivial⟩ ?_
          rw [show l.length + 1 = (l ++ [y ||| 32]).length by rw [List.length_append, List.length_singleton]]
          exact ih (k + 1) (l ++ [y ||| 32]) h5 g (by omega) (by omega) k3_5 (fun i hi => by rw [wS_off e5 (by omega)]; exact k4 i hi) (fun _ => by omega) hst2 k7 (fun z hz => by rcases List.mem_append.mp hz with z9 | z9; exact k8 z z9; rw [List.mem_singleton] at z9; rw [z9]; exact ⟨y3, y4⟩) (by rw [List.length_append, List.length_singleton]; omega) (by omega)
  refine w_aload_n d_MO_property_0 rfl rfl ?_
  refine w_aload_n d_MO_property_1 rfl rfl ?_
  refine w_get d_MO_property_2 f_MO_86 hx rfl ?_
  refine w_bipush (v := nI 91) d_MO_property_5 (by decide) ?_
  refine w_callV (as := [.int (nI p), .int (nI 91)]) (st := []) d_MO_property_7 yM_MO_is l_MO_83 vM_MO_is hx rfl rfl rfl rfl (m_MO_is hx htx ht31 (by omega) (by decide)) (by decide) (by decide) (by decide) (by decide) (Nat.le_of_ble_eq_true rfl) ?_
  rintro _ h9_6 ⟨rfl, e9_6⟩
  rw [e9_6]
  refine w_eq (st' := [.int (bI (decide (t[p]? = some 91)))]) rfl ?_
  refine w_topi (y := nI 1) (by rw [decide_eq_true hc0]; rfl) ?_
  refine w_istore_n d_MO_property_10 (by decide) ?_
  refine w_pl (pl' := [some (.ref 57), some (.int (nI 1)), none, none, none, none, none]) rfl ?_
  refine w_aload_n d_MO_property_11 rfl rfl ?_
  refine w_aload_n d_MO_property_12 rfl rfl ?_
  refine w_get d_MO_property_13 f_MO_86 hx rfl ?_
  refine w_iconst (v := nI 1) d_MO_property_16 (by decide) ?_
  refine w_iadd d_MO_property_17 ?_
  refine w_topi (y := nI (p + 1)) (nI_add _ _) ?_
  refine w_bipush (v := nI 80) d_MO_property_18 (by decide) ?_
  refine w_callV (as := [.int (nI (p + 1)), .int (nI 80)]) (st := []) d_MO_property_20 yM_MO_is l_MO_83 vM_MO_is hx rfl rfl rfl rfl (m_MO_is hx htx ht31 (by omega) (by decide)) (by decide) (by decide) (by decide) (by decide) (Nat.le_of_ble_eq_true rfl) ?_
  rintro _ h9_7 ⟨rfl, e9_7⟩
  rw [e9_7]
  refine w_eq (st' := [.int (bI (decide (t[p + 1]? = some 80)))]) rfl ?_
  refine w_topi (y := nI 0) (by rw [decide_eq_false (by rw [hc1]; decide)]; rfl) ?_
  refine w_istore_n d_MO_property_23 (by decide) ?_
  refine w_pl (pl' := [some (.ref 57), some (.int (nI 1)), some (.int (nI 0)), none, none, none, none]) rfl ?_
  refine w_aload_n d_MO_property_24 rfl rfl ?_
  refine w_aload_n d_MO_property_25 rfl rfl ?_
  refine w_get d_MO_property_26 f_MO_86 hx rfl ?_
  refine w_iconst (v := nI 2) d_MO_property_29 (by decide) ?_
  refine w_iadd d_MO_property_30 ?_
  refine w_topi (y := nI (p + 2)) (nI_add _ _) ?_
  refine w_put d_MO_property_31 f_MO_86 rfl hx rfl rfl rfl ?_
  refine w_nm (fun h8 e8 => ?_)
  have hx_8 := wS_eq e8 hx
  have tp_8 := wS_ne e8 (by omega) tp
  refine w_iload_n d_MO_property_34 rfl ?_
  refine w_if_ne (tgt := 47) d_MO_property_35 rfl (fun _ => ?_) (fun z => absurd z (by decide))
  refine w_aload_n d_MO_property_47 rfl rfl ?_
  refine w_aload_n d_MO_property_48 rfl rfl ?_
  refine w_get d_MO_property_49 f_MO_86 hx_8 rfl ?_
  refine w_bipush (v := nI 94) d_MO_property_52 (by decide) ?_
  have hk1 : ∀ i, i ≠ 57 → h8[i]? = h[i]? := fun i hi => by rw [wS_off e8 (by omega)]
  refine w_callV (as := [.int (nI (p + 2)), .int (nI 94)]) (st := []) d_MO_property_54 yM_MO_is l_MO_83 vM_MO_is hx_8 rfl rfl rfl rfl (m_MO_is hx_8 (htx.keep hk1) ht31 (by omega) (by decide)) (by decide) (by decide) (by decide) (by decide) (Nat.le_of_ble_eq_true rfl) ?_
  rintro _ h9_9 ⟨rfl, e9_9⟩
  rw [e9_9]
  refine w_eq (st' := [.int (bI (decide (t[p + 2]? = some 94)))]) rfl ?_
  refine w_if_eq (tgt := 72) d_MO_property_57 rfl (fun _ => ?_) (fun z => absurd (by rw [decide_eq_false hc2]; rfl) z)
  refine w_lconst (v := lN 0) d_MO_property_72 (by decide) ?_
  refine w_lstore_n d_MO_property_73 (by decide) ?_
  refine w_pl (pl' := [some (.ref 57), some (.int (nI 1)), some (.int (nI 0)), some (.long (lN 0)), none, none, none]) rfl ?_
  refine w_iconst (v := nI 0) d_MO_property_74 (by decide) ?_
  refine w_istore d_MO_property_75 (by decide) ?_
  refine w_pl (pl' := [some (.ref 57), some (.int (nI 1)), some (.int (nI 0)), some (.long (lN 0)), none, some (.int (nI 0)), none]) rfl ?_
  exact L (t.length + 1) (p + 2) [] h8 true (by omega) (by omega) hx_8 (fun i hi => by rw [wS_off e8 (by omega)]) (fun _ => by omega) (fun _ => rfl) (fun k2 l2 hq => by rw [hx0, hlx, ← hq rfl]; simp only [lxOpen2, true_and]) (fun y hy => by cases hy) (Nat.zero_le _) (by omega)
set_option maxHeartbeats 4000000 in
set_option maxRecDepth 100000 in
theorem m_MO_propN {h : wH} {t : List Nat} {dp wr fi : Int32} {p : Nat} (hx : h[57]? = some (.inr (7, [.ref 58, .int (nI t.length), .ref 59, .ref 60, .ref 61, .ref 62, .int (nI p), .int (nI 1), .int (dp), .ref 63, .ref 64, .ref 65, .ref 66, .int (wr), .int (fi), .ref 67]))) (htx : mT h t) (ht31 : ∀ x ∈ t, x < 1114112) {EE SS : Nat → List Nat} (hE : mE h EE SS) (h11 : EE 11 = [0, 1114112]) (s11 : SS 11 = []) (hp : p < 2 ^ 10) (hc0 : t[p]? = some 92) (hc1 : t[p + 1]? = some 112 ∨ t[p + 1]? = some 80) : PM X M_MO_property 6 0 0 [.ref 57] h (ppQ (pX t p) t p dp wr fi EE SS h) := by
  obtain ⟨tf, tp, t60, thf⟩ := id htx
  have hl1 : p + 1 < t.length := by rcases hc1 with z | z <;> exact lx_lt z
  have hlx : pX t p = lxName2 t p (nmR t (t.length - (p + 3)) (p + 3) []) := by unfold pX; rw [hc0]; show lxAt t p 92 = _; rw [lxAt_92, if_pos hc1]; rfl
  obtain ⟨x, hx0⟩ : ∃ x, x = pX t p := ⟨_, rfl⟩
  rw [← hx0]
  refine PM.at (pl := [some (.ref 57), none, none, none, none, none, none]) rfl rfl (by simp [wle, wen]) ?_
  generalize hEN : wEm X 0 0 _ = EN
  have C : ∀ (h3 : wH) (k : Nat) (l : List Nat) (g : Bool), (h3[57]? = some (.inr (7, [.ref 58, .int (nI t.length), .ref 59, .ref 60, .ref 61, .ref 62, .int (nI k), .int (bI g), .int (dp), .ref 63, .ref 64, .ref 65, .ref 66, .int (wr), .int (fi), .ref 67]))) → (∀ i, i ≠ 57 → h3[i]? = h[i]?) → (k < 2 ^ 11) → (x = if g = true ∧ t[k]? = some 125 then lxProp (decide (t[p + 1]? = some 80)) l (k + 1 - p) else none) → (∀ y ∈ l, 1 ≤ y ∧ y < 128) → (l.length ≤ k) → (p ≤ k) → WP X M_MO_property (wR 6 0 0) 0 EN 0 0 240 [some (.ref 57), some (.int (nI 0)), some (.int (bI ((decide (t[p + 1]? = some 80))))), some (.long (lN (wX9 l))), none, some (.int (nI (l.length))), none] [] h3 := by
    intro h3 k l g k3 k4 k5 k6 k7 k8 k9
    refine w_iload_n d_MO_property_240 rfl ?_
    refine w_if_eq (tgt := 259) d_MO_property_241 rfl (fun _ => ?_) (fun z => absurd (by decide) z)
    refine w_aload_n d_MO_property_259 rfl rfl ?_
    refine w_bipush (v := nI 125) d_MO_property_260 (by decide) ?_
    have tk3 := htx.keep k4
    refine w_callV (as := [.int (nI 125)]) (st := []) d_MO_property_262 yM_MO_expect l_MO_105 vM_MO_expect k3 rfl rfl rfl rfl (m_MO_expect (g0 := g) (k := k) (c := 125) k3 (htx.keep k4) ht31 (by omega) (by decide)) (by decide) (by decide) (by decide) (by decide) (Nat.le_of_ble_eq_true rfl) ?_
    rintro _ h4 ⟨rfl, x1, y1⟩
    refine w_eq (st' := []) rfl ?_
    have K1 : ∀ i, i ≠ 57 → h4[i]? = h[i]? := fun i hi => (y1 i hi).trans (k4 i hi)
    refine w_aload_n d_MO_property_265 rfl rfl ?_
    refine w_aload_n d_MO_property_266 rfl rfl ?_
    refine w_get d_MO_property_267 f_MO_93 x1 rfl ?_
    suffices J285 : WP X M_MO_property (wR 6 0 0) 0 EN 0 0 285 [some (.ref 57), some (.int (nI 0)), some (.int (bI ((decide (t[p + 1]? = some 80))))), some (.long (lN (wX9 l))), none, some (.int (nI (l.length))), none] [.int (bI (g && decide (t[k]? = some 125) && decide (l.length ≤ 9))), .ref 57] h4 by
      refine w_if_eq (tgt := 284) d_MO_property_270 rfl (fun c270 => ?_) (fun c270 => ?_)
      · have c270 := bI_f c270
        refine w_iconst (v := nI 0) d_MO_property_284 (by decide) ?_
        exact w_topi (by rw [c270]; rfl) J285
      · have c270 := bI_t c270
        refine w_iload d_MO_property_273 rfl ?_
        refine w_bipush (v := nI 9) d_MO_property_275 (by decide) ?_
        refine w_icmp_gt (tgt := 284) d_MO_property_277 rfl (fun c277 => ?_) (fun c277 => ?_)
        · have c277 : ¬ l.length ≤ 9 := Nat.not_le.mpr ((nI_ltI (a := 9) (b := l.length) (by decide) (by omega)).mp c277)
          refine w_iconst (v := nI 0) d_MO_property_284 (by decide) ?_
          exact w_topi (by rw [c270, decide_eq_false c277]; rfl) J285
        · have c277 : l.length ≤ 9 := Nat.not_lt.mp (fun z => c277 ((nI_ltI (a := 9) (b := l.length) (by decide) (by omega)).mpr z))
          refine w_iconst (v := nI 1) d_MO_property_280 (by decide) ?_
          refine w_goto (tgt := 285) d_MO_property_281 rfl ?_
          exact w_topi (by rw [c270, decide_eq_true c277]; rfl) J285
    refine w_put d_MO_property_285 f_MO_93 rfl x1 rfl (bI_nar _) (bI_fit _) ?_
    refine w_nm (fun h1 e1 => ?_)
    have x1_1 := wS_eq e1 x1
    refine w_aload_n d_MO_property_288 rfl rfl ?_
    refine w_bipush (v := nI 8) d_MO_property_289 (by decide) ?_
    have K3 : ∀ i, i ≠ 57 → h1[i]? = h[i]? := fun i hi => by rw [wS_off e1 (by omega)]; exact K1 i hi
    refine w_callV (as := [.int (nI 8)]) (st := []) d_MO_property_291 yM_MO_empty l_MO_48 vM_MO_empty x1_1 rfl rfl rfl rfl (m_MO_empty x1_1 (hE.keep K3) (t := 8) (by decide)) (by decide) (by decide) (by decide) (by decide) (Nat.le_of_ble_eq_true rfl) ?_
    rintro _ h6 ⟨rfl, e6, o6⟩
    refine w_eq (st' := []) rfl ?_
    have x6 := (o6 57 (by omega)).trans x1_1
    have K6 : ∀ j, j ≠ 57 → (j < 59 ∨ 63 ≤ j) → h6[j]? = h[j]? := fun j h1 h2 => (o6 j (by omega)).trans (K3 j h1)
    have f8 : va_up EE 8 [] 8 = [] := if_pos rfl
    have s8 : va_up SS 8 [] 8 = [] := if_pos rfl
    have fj : ∀ j, j < 8 ∨ j = 11 → va_up EE 8 [] j = EE j ∧ va_up SS 8 [] j = SS j := fun j hj => ⟨if_neg (by omega), if_neg (by omega)⟩
    refine w_aload_n d_MO_property_294 rfl rfl ?_
    refine w_get d_MO_property_295 f_MO_93 x6 rfl ?_
    refine w_if_eq (tgt := 306) d_MO_property_298 rfl (fun c298 => ?_) (fun c298 => ?_)
    · have c298 := bI_f c298
      have hxn : x = none := by
        rw [k6]
        split
        · rename_i hc
          refine lxProp_no (nmN_9 fun z => ?_)
          rw [decide_eq_true z] at c298
          rw [decide_eq_true hc.2, hc.1] at c298
          cases c298
        · rfl
      refine w_aload_n d_MO_property_306 rfl rfl ?_
      refine w_get d_MO_property_307 f_MO_93 x6 rfl ?_
      refine w_if_eq (tgt := 326) d_MO_property_310 rfl (fun _ => ?_) (fun z => absurd (by rw [c298]; rfl) z)
      rw [← hEN]
      refine w_vret d_MO_property_326 rfl ?_
      rw [c298] at x6
      rw [hxn]
      exact ⟨rfl, K6, _, _, _, x6, e6, fj, by omega, fun q w z => by cases z⟩
    · have c298 := bI_t c298
      simp only [Bool.and_eq_true, decide_eq_true_eq] at c298
      rw [if_pos ⟨c298.1.1, c298.1.2⟩] at k6
      have hX9 : wX9 l = wdN l := if_pos c298.2
      rw [show (g && decide (t[k]? = some 125) && decide (l.length ≤ 9)) = true by simp only [Bool.and_eq_true, decide_eq_true_eq]; exact c298] at x6
      refine w_aload_n d_MO_property_301 rfl rfl ?_
      refine w_lload_n d_MO_property_302 rfl ?_
      refine w_topl (y := lN (wdN l)) (by rw [hX9]) ?_
      refine w_callV (as := [.long (lN (wdN l))]) (st := []) d_MO_property_303 yM_MO_fillNamed l_MO_116 vM_MO_fillNamed x6 rfl rfl rfl rfl (m_MO_fill (wr := wr) x6 e6 f8 s8 (l := l) c298.2 k7) (by decide) (by decide) (by decide) (by decide) (Nat.le_of_ble_eq_true rfl) ?_
      rintro _ h7 ⟨rfl, o7, x7, F7, T7, e7, j7, q7⟩
      refine w_eq (st' := []) rfl ?_
      refine w_aload_n d_MO_property_306 rfl rfl ?_
      refine w_get d_MO_property_307 f_MO_93 x7 rfl ?_
      refine w_if_eq (tgt := 326) d_MO_property_310 rfl (fun c310 => ?_) (fun c310 => ?_)
      · have c310 := Decidable.not_not.mp (of_decide_eq_false (bI_f c310))
        rw [lxProp_no c310] at k6
        rw [← hEN]
        refine w_vret d_MO_property_326 rfl ?_
        first
        | (rw [decide_eq_false (fun z => z c310)] at x7
           rw [k6]
           exact ⟨rfl, fun j h1 h2 => (o7 j h1 h2).trans (K6 j h1 h2), _, _, _, x7, e7, fun j hj => ⟨(j7 j hj).1.trans (fj j hj).1, (j7 j hj).2.trans (fj j hj).2⟩, by omega, fun q w z => by cases z⟩)
        | (rw [decide_eq_true c310] at x7
           rw [k6]
           refine ⟨rfl, fun j h1 h2 => (o7 j h1 h2).trans (K6 j h1 h2), _, _, _, x7, e7, fun j hj => ⟨(j7 j hj).1.trans (fj j hj).1, (j7 j hj).2.trans (fj j hj).2⟩, by omega, fun q w z => ?_⟩
           cases z
           refine ⟨by omega, ?_, r8⟩
           rw [q8, if_neg (fun z => absurd (c314.symm.trans z) (by decide)), pTab_f])
      · have c310 := of_decide_eq_true (bI_t c310)
        obtain ⟨q8, r8⟩ := q7 c310
        rw [lxProp_yes c310] at k6
        refine w_iload_n d_MO_property_313 rfl ?_
        refine w_if_eq (tgt := 326) d_MO_property_314 rfl (fun c314 => ?_) (fun c314 => ?_)
        · have c314 := bI_f c314
          rw [← hEN]
          refine w_vret d_MO_property_326 rfl ?_
          first
          | (rw [decide_eq_false (fun z => z c310)] at x7
             rw [k6]
             exact ⟨rfl, fun j h1 h2 => (o7 j h1 h2).trans (K6 j h1 h2), _, _, _, x7, e7, fun j hj => ⟨(j7 j hj).1.trans (fj j hj).1, (j7 j hj).2.trans (fj j hj).2⟩, by omega, fun q w z => by cases z⟩)
          | (rw [decide_eq_true c310] at x7
             rw [k6]
             refine ⟨rfl, fun j h1 h2 => (o7 j h1 h2).trans (K6 j h1 h2), _, _, _, x7, e7, fun j hj => ⟨(j7 j hj).1.trans (fj j hj).1, (j7 j hj).2.trans (fj j hj).2⟩, by omega, fun q w z => ?_⟩
             cases z
             refine ⟨by omega, ?_, r8⟩
             rw [q8, if_neg (fun z => absurd (c314.symm.trans z) (by decide)), pTab_f])
        · have c314 := bI_t c314
          refine w_aload_n d_MO_property_317 rfl rfl ?_
          refine w_bipush (v := nI 8) d_MO_property_318 (by decide) ?_
          refine w_bipush (v := nI 11) d_MO_property_320 (by decide) ?_
          refine w_iconst (v := nI 3) d_MO_property_322 (by decide) ?_
          refine w_callV (as := [.int (nI 8), .int (nI 11), .int (nI 3)]) (st := []) d_MO_property_323 yM_MO_join l_MO_80 vM_MO_join x7 rfl rfl rfl rfl (m_MO_join (t := 8) (b := 11) (how := 3) x7 e7 (by decide) (by decide) (by decide) (by decide) (by decide) (by rw [q8]; exact rTab_ok c310) (by rw [(j7 11 (Or.inr rfl)).1, (fj 11 (Or.inr rfl)).1, h11]; exact ⟨(by unfold eAsc; decide), (by decide)⟩) (by rw [q8, (j7 11 (Or.inr rfl)).1, (fj 11 (Or.inr rfl)).1, h11]; exact rTab_len c310) (by rw [r8]; intro y hy; cases hy) (by rw [(j7 11 (Or.inr rfl)).2, (fj 11 (Or.inr rfl)).2, s11]; intro y hy; cases hy) (by rw [r8, (j7 11 (Or.inr rfl)).2, (fj 11 (Or.inr rfl)).2, s11]; decide)) (by decide) (by decide) (by decide) (by decide) (Nat.le_of_ble_eq_true rfl) ?_
          rintro _ h8 ⟨rfl, o8, F8, T8, e8, u8, v8, j8⟩
          refine w_eq (st' := []) rfl ?_
          have x8 := (o8 57 (by omega)).trans x7
          rw [← hEN]
          refine w_vret d_MO_property_326 rfl ?_
          rw [decide_eq_true c310] at x8
          rw [k6]
          refine ⟨rfl, fun j h1 h2 => (o8 j (by omega)).trans ((o7 j h1 h2).trans (K6 j h1 h2)), _, _, _, x8, e8, fun j hj => ?_, by omega, fun q w z => ?_⟩
          · have a1 := j8 j (by omega) (by omega)
            have a2 := j7 j hj
            have a3 := fj j hj
            exact ⟨a1.1.trans (a2.1.trans a3.1), a1.2.trans (a2.2.trans a3.2)⟩
          · cases z
            refine ⟨by omega, ?_, ?_⟩
            · rw [u8, q8, (j7 11 (Or.inr rfl)).1, (fj 11 (Or.inr rfl)).1, h11, if_pos c314, pTab_t]
            · rw [v8, r8, (j7 11 (Or.inr rfl)).2, (fj 11 (Or.inr rfl)).2, s11]; rfl
  have L : ∀ (n : Nat) (k : Nat) (l : List Nat) (h3 : wH) (g : Bool), (t.length - k < n) → (k < 2 ^ 10 + 4 ∨ k ≤ t.length) → (h3[57]? = some (.inr (7, [.ref 58, .int (nI t.length), .ref 59, .ref 60, .ref 61, .ref 62, .int (nI k), .int (bI g), .int (dp), .ref 63, .ref 64, .ref 65, .ref 66, .int (wr), .int (fi), .ref 67]))) → (∀ i, i ≠ 57 → h3[i]? = h[i]?) → (g = true → k ≤ t.length) → (g = true → nmR t (t.length - k) k l = nmR t (t.length - (p + 3)) (p + 3) []) → (∀ k2 l2, (g = true → (k2, l2) = nmR t (t.length - (p + 3)) (p + 3) []) → x = (fun k l => if g = true ∧ t[k]? = some 125 then lxProp (decide (t[p + 1]? = some 80)) l (k + 1 - p) else none) k2 l2) → (∀ y ∈ l, 1 ≤ y ∧ y < 128) → (l.length ≤ k) → (p ≤ k) → WP X M_MO_property (wR 6 0 0) 0 EN 0 0 77 [some (.ref 57), some (.int (nI 0)), some (.int (bI ((decide (t[p + 1]? = some 80))))), some (.long (lN (wX9 l))), none, some (.int (nI (l.length))), none] [] h3 := by
    intro n
    induction n with
    | zero => intro k l h3 g k1 k2 k3 k4 k5 k6 k7 k8 k10 k9; omega
    | succ n ih =>
      intro k l h3 g k1 k2 k3 k4 k5 k6 k7 k8 k10 k9
      have tp3 := (k4 58 (by omega)).trans tp
      refine w_aload_n d_MO_property_77 rfl rfl ?_
      refine w_get d_MO_property_78 f_MO_86 k3 rfl ?_
      refine w_aload_n d_MO_property_81 rfl rfl ?_
      refine w_get d_MO_property_82 f_MO_43 k3 rfl ?_
      refine w_icmp_ge (tgt := 240) d_MO_property_85 rfl (fun c85 => ?_) (fun c85 => ?_)
      · have c85 := (nI_leI (a := t.length) (b := k) (by omega) (by omega)).mp c85
        have hq : g = true → (k, l) = nmR t (t.length - (p + 3)) (p + 3) [] := fun z => by rw [← k6 z, show t.length - k = 0 by omega, show k = t.length by have := k5 z; omega]; rfl
        exact C h3 k l g k3 k4 (by omega) (k7 k l hq) k8 k10 k9
      · have c85 : k < t.length := Nat.not_le.mp (fun z => c85 ((nI_leI (a := t.length) (b := k) (by omega) (by omega)).mpr z))
        obtain ⟨y, hy⟩ := t_at c85
        have hyl := ht31 y (List.mem_of_getElem? hy)
        have hstep : ∀ z : g = true, (if ltI (nI y) = true then nmR t (t.length - (k + 1)) (k + 1) (l ++ [y ||| 32]) else if y = 32 ∨ y = 95 ∨ y = 45 then nmR t (t.length - (k + 1)) (k + 1) l else (k, l)) = nmR t (t.length - (p + 3)) (p + 3) [] := fun z => by
          rw [← k6 z, show t.length - k = (t.length - (k + 1)) + 1 by omega]
          conv => rhs; unfold nmR
          rw [hy]
        refine w_aload_n d_MO_property_88 rfl rfl ?_
        refine w_get d_MO_property_89 f_MO_7 k3 rfl ?_
        refine w_aload_n d_MO_property_92 rfl rfl ?_
        refine w_get d_MO_property_93 f_MO_86 k3 rfl ?_
        refine w_iald d_MO_property_96 tp3 (vp_in_nI (by omega) (by decide)) ?_
        refine w_topi (y := nI y) (by rw [nI_clamp (by omega)]; exact thf _ _ hy) ?_
        refine w_callS (as := [.int (nI y)]) (st := []) d_MO_property_97 yM_MO_letter l_MO_108 sM_MO_letter rfl rfl (m_MO_letter) (by decide) (by decide) (by decide) (by decide) (Nat.le_of_ble_eq_true rfl) ?_
        rintro _ h9_2 ⟨rfl, e9_2⟩
        rw [e9_2]
        refine w_eq (st' := [.int (bI (ltI (nI y)))]) rfl ?_
        suffices J145 : (ltI (nI y) = true ∨ y = 32 ∨ y = 95 ∨ y = 45) → WP X M_MO_property (wR 6 0 0) 0 EN 0 0 145 [some (.ref 57), some (.int (nI 0)), some (.int (bI ((decide (t[p + 1]? = some 80))))), some (.long (lN (wX9 l))), none, some (.int (nI (l.length))), none] [] h3 by
          refine w_if_ne (tgt := 145) d_MO_property_100 rfl (fun c100 => ?_) (fun c100 => ?_)
          · have c100 := bI_t c100
            exact J145 (Or.inl c100)
          · have c100 := bI_f c100
            refine w_aload_n d_MO_property_103 rfl rfl ?_
            refine w_get d_MO_property_104 f_MO_7 k3 rfl ?_
            refine w_aload_n d_MO_property_107 rfl rfl ?_
            refine w_get d_MO_property_108 f_MO_86 k3 rfl ?_
            refine w_iald d_MO_property_111 tp3 (vp_in_nI (by omega) (by decide)) ?_
            refine w_topi (y := nI y) (by rw [nI_clamp (by omega)]; exact thf _ _ hy) ?_
            refine w_bipush (v := nI 32) d_MO_property_112 (by decide) ?_
            refine w_icmp_eq (tgt := 145) d_MO_property_114 rfl (fun c114 => ?_) (fun c114 => ?_)
            · have c114 := (nI_eq (a := y) (b := 32) (by omega) (by decide)).mp c114
              exact J145 (Or.inr (Or.inl c114))
            · have c114 : y ≠ 32 := fun z => c114 (by rw [z])
              refine w_aload_n d_MO_property_117 rfl rfl ?_
              refine w_get d_MO_property_118 f_MO_7 k3 rfl ?_
              refine w_aload_n d_MO_property_121 rfl rfl ?_
              refine w_get d_MO_property_122 f_MO_86 k3 rfl ?_
              refine w_iald d_MO_property_125 tp3 (vp_in_nI (by omega) (by decide)) ?_
              refine w_topi (y := nI y) (by rw [nI_clamp (by omega)]; exact thf _ _ hy) ?_
              refine w_bipush (v := nI 95) d_MO_property_126 (by decide) ?_
              refine w_icmp_eq (tgt := 145) d_MO_property_128 rfl (fun c128 => ?_) (fun c128 => ?_)
              · have c128 := (nI_eq (a := y) (b := 95) (by omega) (by decide)).mp c128
                exact J145 (Or.inr (Or.inr (Or.inl c128)))
              · have c128 : y ≠ 95 := fun z => c128 (by rw [z])
                refine w_aload_n d_MO_property_131 rfl rfl ?_
                refine w_get d_MO_property_132 f_MO_7 k3 rfl ?_
                refine w_aload_n d_MO_property_135 rfl rfl ?_
                refine w_get d_MO_property_136 f_MO_86 k3 rfl ?_
                refine w_iald d_MO_property_139 tp3 (vp_in_nI (by omega) (by decide)) ?_
                refine w_topi (y := nI y) (by rw [nI_clamp (by omega)]; exact thf _ _ hy) ?_
                refine w_bipush (v := nI 45) d_MO_property_140 (by decide) ?_
                refine w_icmp_ne (tgt := 240) d_MO_property_142 rfl (fun c142 => ?_) (fun c142 => ?_)
                · have c142 : y ≠ 45 := fun z => c142 (by rw [z])
                  have hq : g = true → (k, l) = nmR t (t.length - (p + 3)) (p + 3) [] := fun z => by rw [← hstep z, if_neg (by rw [c100]; decide), if_neg (by omega)]
                  exact C h3 k l g k3 k4 (by omega) (k7 k l hq) k8 k10 k9
                · have c142 := (nI_eq (a := y) (b := 45) (by omega) (by decide)).mp c142
                  exact J145 (Or.inr (Or.inr (Or.inr c142)))
        intro hor
        refine w_aload_n d_MO_property_145 rfl rfl ?_
        refine w_get d_MO_property_146 f_MO_7 k3 rfl ?_
        refine w_aload_n d_MO_property_149 rfl rfl ?_
        refine w_get d_MO_property_150 f_MO_86 k3 rfl ?_
        refine w_iald d_MO_property_153 tp3 (vp_in_nI (by omega) (by decide)) ?_
        refine w_topi (y := nI y) (by rw [nI_clamp (by omega)]; exact thf _ _ hy) ?_
        refine w_callS (as := [.int (nI y)]) (st := []) d_MO_property_154 yM_MO_letter l_MO_108 sM_MO_letter rfl rfl (m_MO_letter) (by decide) (by decide) (by decide) (by decide) (Nat.le_of_ble_eq_true rfl) ?_
        rintro _ h9_3 ⟨rfl, e9_3⟩
        rw [e9_3]
        refine w_eq (st' := [.int (bI (ltI (nI y)))]) rfl ?_
        refine w_if_eq (tgt := 227) d_MO_property_157 rfl (fun c157 => ?_) (fun c157 => ?_)
        · have c157 := bI_f c157
          have hst2 : g = true → nmR t (t.length - (k + 1)) (k + 1) l = nmR t (t.length - (p + 3)) (p + 3) [] := fun z => by rw [← hstep z, if_neg (by rw [c157]; decide), if_pos (by rcases hor with z9 | z9; rw [c157] at z9; cases z9; exact z9)]
          refine w_aload_n d_MO_property_227 rfl rfl ?_
          refine w_aload_n d_MO_property_228 rfl rfl ?_
          refine w_get d_MO_property_229 f_MO_86 k3 rfl ?_
          refine w_iconst (v := nI 1) d_MO_property_232 (by decide) ?_
          refine w_iadd d_MO_property_233 ?_
          refine w_topi (y := nI (k + 1)) (nI_1 _) ?_
          refine w_put d_MO_property_234 f_MO_86 rfl k3 rfl rfl rfl ?_
          refine w_nm (fun h4 e4 => ?_)
          have k3_4 := wS_eq e4 k3
          have tp3_4 := wS_ne e4 (by omega) tp3
          refine w_goto (tgt := 77) d_MO_property_237 rfl ?_
          exact ih (k + 1) l h4 g (by omega) (by omega) k3_4 (fun i hi => by rw [wS_off e4 (by omega)]; exact k4 i hi) (fun _ => by omega) hst2 k7 k8 (by omega) (by omega)
        · have c157 := bI_t c157
          have hst2 : g = true → nmR t (t.length - (k + 1)) (k + 1) (l ++ [y ||| 32]) = nmR t (t.length - (p + 3)) (p + 3) [] := fun z => by rw [← hstep z, if_pos c157]
          obtain ⟨y1, y2, y3, y4⟩ := lt_32 hyl c157
          refine w_iload d_MO_property_160 rfl ?_
          refine w_iconst (v := nI 1) d_MO_property_162 (by decide) ?_
          refine w_iadd d_MO_property_163 ?_
          refine w_topi (y := nI (l.length + 1)) (nI_1 _) ?_
          refine w_istore d_MO_property_164 (by decide) ?_
          refine w_pl (pl' := [some (.ref 57), some (.int (nI 0)), some (.int (bI ((decide (t[p + 1]? = some 80))))), some (.long (lN (wX9 l))), none, some (.int (nI (l.length + 1))), none]) rfl ?_
          refine w_aload_n d_MO_property_166 rfl rfl ?_
          refine w_get d_MO_property_167 f_MO_7 k3 rfl ?_
          refine w_aload_n d_MO_property_170 rfl rfl ?_
          refine w_get d_MO_property_171 f_MO_86 k3 rfl ?_
          refine w_iald d_MO_property_174 tp3 (vp_in_nI (by omega) (by decide)) ?_
          refine w_topi (y := nI y) (by rw [nI_clamp (by omega)]; exact thf _ _ hy) ?_
          refine w_bipush (v := nI 90) d_MO_property_175 (by decide) ?_
          suffices J204 : WP X M_MO_property (wR 6 0 0) 0 EN 0 0 204 [some (.ref 57), some (.int (nI 0)), some (.int (bI ((decide (t[p + 1]? = some 80))))), some (.long (lN (wX9 l))), none, some (.int (nI (l.length + 1))), none] [.int (nI (y ||| 32))] h3 by
            refine w_icmp_gt (tgt := 195) d_MO_property_177 rfl (fun c177 => ?_) (fun c177 => ?_)
            · have c177 : ¬ y ≤ 90 := Nat.not_le.mpr ((nI_ltI (a := 90) (b := y) (by decide) (by omega)).mp c177)
              refine w_aload_n d_MO_property_195 rfl rfl ?_
              refine w_get d_MO_property_196 f_MO_7 k3 rfl ?_
              refine w_aload_n d_MO_property_199 rfl rfl ?_
              refine w_get d_MO_property_200 f_MO_86 k3 rfl ?_
              refine w_iald d_MO_property_203 tp3 (vp_in_nI (by omega) (by decide)) ?_
              refine w_topi (y := nI y) (by rw [nI_clamp (by omega)]; exact thf _ _ hy) ?_
              exact w_topi (by rw [y2 c177]) J204
            · have c177 : y ≤ 90 := Nat.not_lt.mp (fun z => c177 ((nI_ltI (a := 90) (b := y) (by decide) (by omega)).mpr z))
              refine w_aload_n d_MO_property_180 rfl rfl ?_
              refine w_get d_MO_property_181 f_MO_7 k3 rfl ?_
              refine w_aload_n d_MO_property_184 rfl rfl ?_
              refine w_get d_MO_property_185 f_MO_86 k3 rfl ?_
              refine w_iald d_MO_property_188 tp3 (vp_in_nI (by omega) (by decide)) ?_
              refine w_topi (y := nI y) (by rw [nI_clamp (by omega)]; exact thf _ _ hy) ?_
              refine w_bipush (v := nI 32) d_MO_property_189 (by decide) ?_
              refine w_iadd d_MO_property_191 ?_
              refine w_topi (y := nI (y + 32)) (nI_add _ _) ?_
              refine w_goto (tgt := 204) d_MO_property_192 rfl ?_
              exact w_topi (by rw [y1 c177]) J204
          refine w_istore d_MO_property_204 (by decide) ?_
          refine w_pl (pl' := [some (.ref 57), some (.int (nI 0)), some (.int (bI ((decide (t[p + 1]? = some 80))))), some (.long (lN (wX9 l))), none, some (.int (nI (l.length + 1))), some (.int (nI (y ||| 32)))]) rfl ?_
          refine w_iload d_MO_property_206 rfl ?_
          refine w_bipush (v := nI 9) d_MO_property_208 (by decide) ?_
          suffices J226 : WP X M_MO_property (wR 6 0 0) 0 EN 0 0 226 [some (.ref 57), some (.int (nI 0)), some (.int (bI ((decide (t[p + 1]? = some 80))))), some (.long (lN (wX9 l))), none, some (.int (nI (l.length + 1))), some (.int (nI (y ||| 32)))] [.long (lN (wX9 (l ++ [y ||| 32])))] h3 by
            refine w_icmp_gt (tgt := 225) d_MO_property_210 rfl (fun c210 => ?_) (fun c210 => ?_)
            · have c210 : ¬ l.length + 1 ≤ 9 := Nat.not_le.mpr ((nI_ltI (a := 9) (b := l.length + 1) (by decide) (by omega)).mp c210)
              refine w_lconst (v := lN 0) d_MO_property_225 (by decide) ?_
              exact w_topl (by unfold wX9; rw [if_neg (by rw [List.length_append, List.length_singleton]; exact c210)]) J226
            · have c210 : l.length + 1 ≤ 9 := Nat.not_lt.mp (fun z => c210 ((nI_ltI (a := 9) (b := l.length + 1) (by decide) (by omega)).mpr z))
              refine w_lload_n d_MO_property_213 rfl ?_
              refine w_ldc2 (v := lN 128) d_MO_property_214 k_MO_114 ?_
              refine w_lmul d_MO_property_217 ?_
              refine w_topl (y := lN (wX9 l * 128)) (lN_mul _ _) ?_
              refine w_iload d_MO_property_218 rfl ?_
              refine w_i2l d_MO_property_220 ?_
              refine w_topl (y := lN (y ||| 32)) (nI_l (by omega)) ?_
              refine w_ladd d_MO_property_221 ?_
              refine w_topl (y := lN (wX9 l * 128 + (y ||| 32))) (lN_add _ _) ?_
              refine w_goto (tgt := 226) d_MO_property_222 rfl ?_
              exact w_topl (by unfold wX9; rw [if_pos (by omega), if_pos (by rw [List.length_append, List.length_singleton]; exact c210), wdN_app]) J226
          refine w_lstore_n d_MO_property_226 (by decide) ?_
          refine w_pl (pl' := [some (.ref 57), some (.int (nI 0)), some (.int (bI ((decide (t[p + 1]? = some 80))))), some (.long (lN (wX9 (l ++ [y ||| 32])))), none, some (.int (nI (l.length + 1))), some (.int (nI (y ||| 32)))]) rfl ?_
          refine w_aload_n d_MO_property_227 rfl rfl ?_
          refine w_aload_n d_MO_property_228 rfl rfl ?_
          refine w_get d_MO_property_229 f_MO_86 k3 rfl ?_
          refine w_iconst (v := nI 1) d_MO_property_232 (by decide) ?_
          refine w_iadd d_MO_property_233 ?_
          refine w_topi (y := nI (k + 1)) (nI_1 _) ?_
          refine w_put d_MO_property_234 f_MO_86 rfl k3 rfl rfl rfl ?_
          refine w_nm (fun h5 e5 => ?_)
          have k3_5 := wS_eq e5 k3
          have tp3_5 := wS_ne e5 (by omega) tp3
          refine w_goto (tgt := 77) d_MO_property_237 rfl ?_
          refine w_le (pl' := [some (.ref 57), some (.int (nI 0)), some (.int (bI ((decide (t[p + 1]? = some 80))))), some (.long (lN (wX9 (l ++ [y ||| 32])))), none, some (.int (nI (l.length + 1))), none]) ⟨rfl, rfl, rfl, rfl, rfl, trivial⟩ ?_
          rw [show l.length + 1 = (l ++ [y ||| 32]).length by rw [List.length_append, List.length_singleton]]
          exact ih (k + 1) (l ++ [y ||| 32]) h5 g (by omega) (by omega) k3_5 (fun i hi => by rw [wS_off e5 (by omega)]; exact k4 i hi) (fun _ => by omega) hst2 k7 (fun z hz => by rcases List.mem_append.mp hz with z9 | z9; exact k8 z z9; rw [List.mem_singleton] at z9; rw [z9]; exact ⟨y3, y4⟩) (by rw [List.length_append, List.length_singleton]; omega) (by omega)
  refine w_aload_n d_MO_property_0 rfl rfl ?_
  refine w_aload_n d_MO_property_1 rfl rfl ?_
  refine w_get d_MO_property_2 f_MO_86 hx rfl ?_
  refine w_bipush (v := nI 91) d_MO_property_5 (by decide) ?_
  refine w_callV (as := [.int (nI p), .int (nI 91)]) (st := []) d_MO_property_7 yM_MO_is l_MO_83 vM_MO_is hx rfl rfl rfl rfl (m_MO_is hx htx ht31 (by omega) (by decide)) (by decide) (by decide) (by decide) (by decide) (Nat.le_of_ble_eq_true rfl) ?_
  rintro _ h9_6 ⟨rfl, e9_6⟩
  rw [e9_6]
  refine w_eq (st' := [.int (bI (decide (t[p]? = some 91)))]) rfl ?_
  refine w_topi (y := nI 0) (by rw [decide_eq_false (by rw [hc0]; decide)]; rfl) ?_
  refine w_istore_n d_MO_property_10 (by decide) ?_
  refine w_pl (pl' := [some (.ref 57), some (.int (nI 0)), none, none, none, none, none]) rfl ?_
  refine w_aload_n d_MO_property_11 rfl rfl ?_
  refine w_aload_n d_MO_property_12 rfl rfl ?_
  refine w_get d_MO_property_13 f_MO_86 hx rfl ?_
  refine w_iconst (v := nI 1) d_MO_property_16 (by decide) ?_
  refine w_iadd d_MO_property_17 ?_
  refine w_topi (y := nI (p + 1)) (nI_add _ _) ?_
  refine w_bipush (v := nI 80) d_MO_property_18 (by decide) ?_
  refine w_callV (as := [.int (nI (p + 1)), .int (nI 80)]) (st := []) d_MO_property_20 yM_MO_is l_MO_83 vM_MO_is hx rfl rfl rfl rfl (m_MO_is hx htx ht31 (by omega) (by decide)) (by decide) (by decide) (by decide) (by decide) (Nat.le_of_ble_eq_true rfl) ?_
  rintro _ h9_7 ⟨rfl, e9_7⟩
  rw [e9_7]
  refine w_eq (st' := [.int (bI (decide (t[p + 1]? = some 80)))]) rfl ?_
  refine w_istore_n d_MO_property_23 (by decide) ?_
  refine w_pl (pl' := [some (.ref 57), some (.int (nI 0)), some (.int (bI (decide (t[p + 1]? = some 80)))), none, none, none, none]) rfl ?_
  refine w_aload_n d_MO_property_24 rfl rfl ?_
  refine w_aload_n d_MO_property_25 rfl rfl ?_
  refine w_get d_MO_property_26 f_MO_86 hx rfl ?_
  refine w_iconst (v := nI 2) d_MO_property_29 (by decide) ?_
  refine w_iadd d_MO_property_30 ?_
  refine w_topi (y := nI (p + 2)) (nI_add _ _) ?_
  refine w_put d_MO_property_31 f_MO_86 rfl hx rfl rfl rfl ?_
  refine w_nm (fun h8 e8 => ?_)
  have hx_8 := wS_eq e8 hx
  have tp_8 := wS_ne e8 (by omega) tp
  refine w_iload_n d_MO_property_34 rfl ?_
  refine w_if_ne (tgt := 47) d_MO_property_35 rfl (fun z => absurd (by decide) z) (fun _ => ?_)
  refine w_aload_n d_MO_property_38 rfl rfl ?_
  refine w_bipush (v := nI 123) d_MO_property_39 (by decide) ?_
  have hk1 : ∀ i, i ≠ 57 → h8[i]? = h[i]? := fun i hi => by rw [wS_off e8 (by omega)]
  refine w_callV (as := [.int (nI 123)]) (st := []) d_MO_property_41 yM_MO_expect l_MO_105 vM_MO_expect hx_8 rfl rfl rfl rfl (m_MO_expect (g0 := true) (k := p + 2) (c := 123) hx_8 (htx.keep hk1) ht31 (by omega) (by decide)) (by decide) (by decide) (by decide) (by decide) (Nat.le_of_ble_eq_true rfl) ?_
  rintro _ he ⟨rfl, xe, ye⟩
  refine w_eq (st' := []) rfl ?_
  have hk2 : ∀ i, i ≠ 57 → he[i]? = h[i]? := fun i hi => (ye i hi).trans (hk1 i hi)
  refine w_goto (tgt := 72) d_MO_property_44 rfl ?_
  refine w_lconst (v := lN 0) d_MO_property_72 (by decide) ?_
  refine w_lstore_n d_MO_property_73 (by decide) ?_
  refine w_pl (pl' := [some (.ref 57), some (.int (nI 0)), some (.int (bI (decide (t[p + 1]? = some 80)))), some (.long (lN 0)), none, none, none]) rfl ?_
  refine w_iconst (v := nI 0) d_MO_property_74 (by decide) ?_
  refine w_istore d_MO_property_75 (by decide) ?_
  refine w_pl (pl' := [some (.ref 57), some (.int (nI 0)), some (.int (bI (decide (t[p + 1]? = some 80)))), some (.long (lN 0)), none, some (.int (nI 0)), none]) rfl ?_
  refine L (t.length + 1) (p + 3) [] he (true && decide (t[p + 2]? = some 123)) (by omega) (by omega) xe hk2 (fun z => by have := lx_lt (of_decide_eq_true z); omega) (fun _ => rfl) (fun k2 l2 hq => ?_) (fun y hy => by cases hy) (Nat.zero_le _) (by omega)
  rw [hx0, hlx]
  by_cases h123 : t[p + 2]? = some 123
  · rw [← hq (by rw [decide_eq_true h123]; rfl)]
    simp only [lxName2, h123, true_and, decide_true, Bool.true_and]
  · unfold lxName2
    rw [if_neg (fun z => h123 z.1)]
    dsimp only
    rw [if_neg (fun z => by have := z.1; rw [decide_eq_false h123] at this; cases this)]
theorem m_MO_property {h : wH} {t : List Nat} {dp wr fi : Int32} {p : Nat} (hx : h[57]? = some (.inr (7, [.ref 58, .int (nI t.length), .ref 59, .ref 60, .ref 61, .ref 62, .int (nI p), .int (nI 1), .int (dp), .ref 63, .ref 64, .ref 65, .ref 66, .int (wr), .int (fi), .ref 67]))) (htx : mT h t) (ht31 : ∀ x ∈ t, x < 1114112) {EE SS : Nat → List Nat} (hE : mE h EE SS) (h11 : EE 11 = [0, 1114112]) (s11 : SS 11 = []) (hp : p < 2 ^ 10) (ha : pA t p) : PM X M_MO_property 6 0 0 [.ref 57] h (ppQ (pX t p) t p dp wr fi EE SS h) := by
  rcases ha with ⟨z1, z2⟩ | ⟨z1, z2⟩
  · by_cases z3 : t[p + 2]? = some 94
    · exact m_MO_propB1 hx htx ht31 hE h11 s11 hp z1 z2 z3
    · exact m_MO_propB0 hx htx ht31 hE h11 s11 hp z1 z2 z3
  · exact m_MO_propN hx htx ht31 hE h11 s11 hp z1 z2
end MO12
