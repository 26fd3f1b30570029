/-! the reference's readChar: written by wip/gen/mo10.py -/
theorem hxI_neg {x : Int32} : hxI x < 0 ↔ hxI x = -1 := by
  constructor
  · intro h
    refine Decidable.byContradiction fun z => ?_
    obtain ⟨d, hd, he⟩ := hxI_d z
    rw [he] at h
    exact nI_pos (by omega) h
  · intro h; rw [h]; decide
theorem mT.keep {h h' : wH} {t : List Nat} (a : mT h t) (c : ∀ j, j ≠ 57 → h'[j]? = h[j]?) : mT h' t := by
  obtain ⟨f, h1, h2⟩ := a
  exact ⟨f, (c _ (by omega)).trans h1, h2⟩
def rcQ (t : List Nat) (k : Nat) (dp wr fi : Int32) (h : wH) : Option Value → wH → Prop := fun z h' => (∀ j, j ≠ 57 → h'[j]? = h[j]?) ∧ ∃ (v : Int32) (k' : Nat), z = some (.int v) ∧ h'[57]? = some (.inr (7, [.ref 58, .int (nI t.length), .ref 59, .ref 60, .ref 61, .ref 62, .int (nI k'), .int (bI (rc t k).isSome), .int (dp), .ref 63, .ref 64, .ref 65, .ref 66, .int (wr), .int (fi), .ref 67])) ∧ k' ≤ k + 10 ∧ ∀ a k1, rc t k = some (a, k1) → v = nI a ∧ k' = k1
theorem lxProp_k {o : Bool} {l : List Nat} {w0 w : Nat} {q : Nat × Int32} (h : lxProp o l w0 = some (some q, w)) : q.1 = 2 ∨ q.1 = 3 := by
  unfold lxProp at h
  split at h
  · cases h
  · cases h
    cases o
    · exact Or.inl rfl
    · exact Or.inr rfl
theorem lxOpen2_k {t : List Nat} {k w : Nat} {o : Bool} {q0 : Nat × List Nat} {q : Nat × Int32} (h : lxOpen2 t k o q0 = some (some q, w)) : q.1 = 2 ∨ q.1 = 3 := by
  unfold lxOpen2 at h
  split at h
  · exact lxProp_k h
  · cases h
theorem lxOpen_k {t : List Nat} {k w : Nat} {q : Nat × Int32} (h : lxOpen t k = some (some q, w)) : q.1 ≠ 1 := by
  unfold lxOpen at h
  split at h
  · cases h; decide
  split at h
  · have := lxOpen2_k h
    omega
  · cases h; intro z; cases z
theorem lxName_k {t : List Nat} {k w : Nat} {q : Nat × Int32} (h : lxName t k = some (some q, w)) : q.1 ≠ 1 := by
  unfold lxName lxName2 at h
  split at h
  · have := lxProp_k h
    omega
  · cases h
theorem rc_none {t : List Nat} {k : Nat} (h : t[k]? = none) : rc t k = none := by
  unfold rc
  rw [h]
theorem rc_sp {t : List Nat} {k c : Nat} (h : t[k]? = some c) (hc : c = 32 ∨ (spc c = true ∧ c ≠ 92)) : rc t k = none := by
  unfold rc
  rw [h]
  dsimp only
  have hc2 : c = 32 ∨ c = 91 ∨ c = 93 ∨ c = 123 ∨ c = 125 ∨ c = 45 ∨ c = 38 ∨ c = 94 := by
    rcases hc with z | ⟨z, y⟩
    · exact Or.inl z
    · have := of_decide_eq_true z
      omega
  rcases hc2 with rfl | rfl | rfl | rfl | rfl | rfl | rfl | rfl
  · simp [lxAt]
  · rw [show lxAt t k 91 = lxOpen t k from rfl]
    split
    · rename_i he
      exact absurd rfl (lxOpen_k he)
    · rfl
  · simp [lxAt]
  · simp [lxAt]
  · simp [lxAt]
  · simp [lxAt]
  · simp [lxAt]
  · simp [lxAt]
theorem rc_pl {t : List Nat} {k c : Nat} (h : t[k]? = some c) (h1 : c ≠ 32) (h2 : spc c = false) (hl : c < 1114112) : rc t k = some (c, k + 1) := by
  have h2 := of_decide_eq_false h2
  unfold rc
  rw [h]
  dsimp only
  unfold lxAt
  rw [if_neg h1, if_neg (by omega), if_neg (by omega), if_neg (by omega), if_neg (by omega), if_neg (by omega), if_neg (by omega), if_neg (by omega), if_neg (by omega)]
  show some (nV (nI c), k + 1) = _
  rw [nV_nI hl]
theorem lxAt_92 (t : List Nat) (k : Nat) : lxAt t k 92 = if t[k + 1]? = some 112 ∨ t[k + 1]? = some 80 then lxName t k else lxEsc t k := rfl
theorem rc_bs0 {t : List Nat} {k : Nat} (h : t[k]? = some 92) (h1 : t[k + 1]? = none) : rc t k = none := by
  unfold rc
  rw [h]
  dsimp only
  rw [lxAt_92, h1, if_neg (by simp)]
  unfold lxEsc
  rw [h1]
theorem rc_u {t : List Nat} {k : Nat} (h : t[k]? = some 92) (h1 : t[k + 1]? = some 117) : rc t k = if hxR t (k + 2) 4 0 = 4 then some (nV (hvI t (k + 2) 4), k + 6) else none := by
  unfold rc
  rw [h]
  dsimp only
  rw [lxAt_92, h1, if_neg (by simp)]
  unfold lxEsc
  rw [h1]
  dsimp only
  rw [if_neg (by decide), if_neg (by decide), if_pos rfl]
  unfold lxFour
  split <;> rename_i he
  · split at he
    · rename_i q
      cases he
      rw [if_pos q]
    · cases he
  · split
    · rename_i q
      rw [if_pos q] at he
      exact absurd rfl (he _ _)
    · rfl
theorem rc_x {t : List Nat} {k : Nat} (h : t[k]? = some 92) (h1 : t[k + 1]? = some 120) : rc t k = if (t[k + 2]? = some 123 ∧ ¬ hxR t (k + 3) 6 0 = 0 ∧ t[k + 3 + hxR t (k + 3) 6 0]? = some 125) ∧ (0 ≤ hvI t (k + 3) (hxR t (k + 3) 6 0) ∧ hvI t (k + 3) (hxR t (k + 3) 6 0) < nI 1114112) then some (nV (hvI t (k + 3) (hxR t (k + 3) 6 0)), k + (hxR t (k + 3) 6 0 + 4)) else none := by
  unfold rc
  rw [h]
  dsimp only
  rw [lxAt_92, h1, if_neg (by simp)]
  unfold lxEsc
  rw [h1]
  dsimp only
  rw [if_neg (by decide), if_neg (by decide), if_neg (by decide), if_pos rfl]
  unfold lxBr lxBr2
  by_cases c1 : t[k + 2]? = some 123 ∧ ¬ hxR t (k + 3) 6 0 = 0 ∧ t[k + 3 + hxR t (k + 3) 6 0]? = some 125
  · rw [if_pos c1]
    by_cases c2 : 0 ≤ hvI t (k + 3) (hxR t (k + 3) 6 0) ∧ hvI t (k + 3) (hxR t (k + 3) 6 0) < nI 1114112
    · rw [if_pos c2, if_pos ⟨c1, c2⟩]; rfl
    · rw [if_neg c2, if_neg (fun z => c2 z.2)]
  · rw [if_neg c1, if_neg (fun z => c1 z.1)]
def esV (c : Nat) : Nat := if c = 110 then 10 else if c = 116 then 9 else c
theorem rc_e {t : List Nat} {k c : Nat} (h : t[k]? = some 92) (h1 : t[k + 1]? = some c) (hu : c ≠ 117) (hx9 : c ≠ 120) (hl : c < 1114112) : rc t k = if ltI (nI c) = true ∧ c ≠ 110 ∧ c ≠ 116 then none else some (esV c, k + 2) := by
  unfold rc
  rw [h]
  dsimp only
  rw [lxAt_92, h1]
  by_cases hp : c = 112 ∨ c = 80
  · rw [if_pos (by rcases hp with rfl | rfl <;> simp), if_pos (by rcases hp with rfl | rfl <;> decide)]
    split
    · rename_i he
      exact absurd rfl (lxName_k he)
    · rfl
  · rw [if_neg (by simp; omega)]
    unfold lxEsc
    rw [h1]
    dsimp only
    by_cases h2 : c = 110
    · subst h2
      rw [if_pos rfl, if_neg (by simp)]
      rfl
    · by_cases h3 : c = 116
      · subst h3
        rw [if_neg (by decide), if_pos rfl, if_neg (by simp)]
        rfl
      · rw [if_neg h2, if_neg h3, if_neg hu, if_neg hx9]
        by_cases h4 : ltI (nI c) = true
        · rw [if_pos h4, if_pos ⟨h4, h2, h3⟩]
        · rw [if_neg h4, if_neg (fun z => h4 z.1)]
          show some (nV (nI c), k + 2) = _
          unfold esV
          rw [nV_nI hl, if_neg h2, if_neg h3]
section MO10
variable {X : wX}
set_option maxHeartbeats 4000000 in
set_option maxRecDepth 100000 in
theorem m_MO_hex {h : wH} {x : Int32} : PM X M_MO_hex 0 0 0 [.int (x)] h (fun r h' => r = some (.int (hxI x)) ∧ h' = h) := by
  refine PM.at (pl := [some (.int (x))]) rfl rfl (by simp [wle, wen]) ?_
  generalize hEN : wEm X 0 0 _ = EN
  refine w_iload_n d_MO_hex_0 rfl ?_
  refine w_bipush (v := nI 48) d_MO_hex_1 (by decide) ?_
  suffices J17 : ¬ ((48 : Int32) ≤ x ∧ x ≤ 57) → WP X M_MO_hex (wR 0 0 0) 0 EN 0 0 17 [some (.int (x))] [] h by
    refine w_icmp_lt (tgt := 17) d_MO_hex_3 rfl (fun c3 => ?_) (fun c3 => ?_)
    · exact J17 (fun z => absurd z.1 (i32_nle.mpr c3))
    · refine w_iload_n d_MO_hex_6 rfl ?_
      refine w_bipush (v := nI 57) d_MO_hex_7 (by decide) ?_
      refine w_icmp_gt (tgt := 17) d_MO_hex_9 rfl (fun c9 => ?_) (fun c9 => ?_)
      · exact J17 (fun z => absurd z.2 (i32_nle.mpr c9))
      · refine w_iload_n d_MO_hex_12 rfl ?_
        refine w_bipush (v := nI 48) d_MO_hex_13 (by decide) ?_
        refine w_isub d_MO_hex_15 ?_
        rw [← hEN]
        refine w_iret d_MO_hex_16 rfl ?_
        rw [hxI, if_pos ⟨i32_nlt.mp c3, i32_nlt.mp c9⟩]
        exact ⟨rfl, rfl⟩
  intro n1
  refine w_iload_n d_MO_hex_17 rfl ?_
  refine w_bipush (v := nI 97) d_MO_hex_18 (by decide) ?_
  suffices J39 : ¬ ((97 : Int32) ≤ x ∧ x ≤ 102) → WP X M_MO_hex (wR 0 0 0) 0 EN 0 0 39 [some (.int (x))] [] h by
    refine w_icmp_lt (tgt := 39) d_MO_hex_20 rfl (fun c20 => ?_) (fun c20 => ?_)
    · exact J39 (fun z => absurd z.1 (i32_nle.mpr c20))
    · refine w_iload_n d_MO_hex_23 rfl ?_
      refine w_bipush (v := nI 102) d_MO_hex_24 (by decide) ?_
      refine w_icmp_gt (tgt := 39) d_MO_hex_26 rfl (fun c26 => ?_) (fun c26 => ?_)
      · exact J39 (fun z => absurd z.2 (i32_nle.mpr c26))
      · refine w_iload_n d_MO_hex_29 rfl ?_
        refine w_bipush (v := nI 97) d_MO_hex_30 (by decide) ?_
        refine w_isub d_MO_hex_32 ?_
        refine w_bipush (v := nI 10) d_MO_hex_33 (by decide) ?_
        refine w_iadd d_MO_hex_35 ?_
        refine w_goto (tgt := 62) d_MO_hex_36 rfl ?_
        rw [← hEN]
        refine w_iret d_MO_hex_62 rfl ?_
        first
        | (rw [hxI, if_neg n1, if_pos ⟨i32_nlt.mp c20, i32_nlt.mp c26⟩]; exact ⟨rfl, rfl⟩)
        | (rw [hxI, if_neg n1, if_neg n2, if_neg n3]; exact ⟨rfl, rfl⟩)
        | (rw [hxI, if_neg n1, if_neg n2, if_pos ⟨i32_nlt.mp c42, i32_nlt.mp c48⟩]; exact ⟨rfl, rfl⟩)
  intro n2
  refine w_iload_n d_MO_hex_39 rfl ?_
  refine w_bipush (v := nI 65) d_MO_hex_40 (by decide) ?_
  suffices J61 : ¬ ((65 : Int32) ≤ x ∧ x ≤ 70) → WP X M_MO_hex (wR 0 0 0) 0 EN 0 0 61 [some (.int (x))] [] h by
    refine w_icmp_lt (tgt := 61) d_MO_hex_42 rfl (fun c42 => ?_) (fun c42 => ?_)
    · exact J61 (fun z => absurd z.1 (i32_nle.mpr c42))
    · refine w_iload_n d_MO_hex_45 rfl ?_
      refine w_bipush (v := nI 70) d_MO_hex_46 (by decide) ?_
      refine w_icmp_gt (tgt := 61) d_MO_hex_48 rfl (fun c48 => ?_) (fun c48 => ?_)
      · exact J61 (fun z => absurd z.2 (i32_nle.mpr c48))
      · refine w_iload_n d_MO_hex_51 rfl ?_
        refine w_bipush (v := nI 65) d_MO_hex_52 (by decide) ?_
        refine w_isub d_MO_hex_54 ?_
        refine w_bipush (v := nI 10) d_MO_hex_55 (by decide) ?_
        refine w_iadd d_MO_hex_57 ?_
        refine w_goto (tgt := 62) d_MO_hex_58 rfl ?_
        rw [← hEN]
        refine w_iret d_MO_hex_62 rfl ?_
        first
        | (rw [hxI, if_neg n1, if_pos ⟨i32_nlt.mp c20, i32_nlt.mp c26⟩]; exact ⟨rfl, rfl⟩)
        | (rw [hxI, if_neg n1, if_neg n2, if_neg n3]; exact ⟨rfl, rfl⟩)
        | (rw [hxI, if_neg n1, if_neg n2, if_pos ⟨i32_nlt.mp c42, i32_nlt.mp c48⟩]; exact ⟨rfl, rfl⟩)
  intro n3
  refine w_iconst (v := -1) d_MO_hex_61 (by decide) ?_
  rw [← hEN]
  refine w_iret d_MO_hex_62 rfl ?_
  first
  | (rw [hxI, if_neg n1, if_pos ⟨i32_nlt.mp c20, i32_nlt.mp c26⟩]; exact ⟨rfl, rfl⟩)
  | (rw [hxI, if_neg n1, if_neg n2, if_neg n3]; exact ⟨rfl, rfl⟩)
  | (rw [hxI, if_neg n1, if_neg n2, if_pos ⟨i32_nlt.mp c42, i32_nlt.mp c48⟩]; exact ⟨rfl, rfl⟩)
set_option maxHeartbeats 4000000 in
set_option maxRecDepth 100000 in
theorem m_MO_hexD {h : wH} {t : List Nat} {dp wr fi : Int32} {g0 : Bool} {k l m : Nat} (hx : h[57]? = some (.inr (7, [.ref 58, .int (nI t.length), .ref 59, .ref 60, .ref 61, .ref 62, .int (nI k), .int (bI g0), .int (dp), .ref 63, .ref 64, .ref 65, .ref 66, .int (wr), .int (fi), .ref 67]))) (htx : mT h t) (ht31 : ∀ x ∈ t, x < 1114112)  (hk : k < 2 ^ 20) (hl : l < 2 ^ 10) (hm : m < 2 ^ 10) : PM X M_MO_hexDigits 1 0 0 [.ref 57, .int (nI l), .int (nI m)] h (fun z h' => z = some (.int (hvI t k (hxR t k m 0))) ∧ h'[57]? = some (.inr (7, [.ref 58, .int (nI t.length), .ref 59, .ref 60, .ref 61, .ref 62, .int (nI (k + hxR t k m 0)), .int (bI (g0 && decide (l ≤ hxR t k m 0))), .int (dp), .ref 63, .ref 64, .ref 65, .ref 66, .int (wr), .int (fi), .ref 67])) ∧ ∀ j, j ≠ 57 → h'[j]? = h[j]?) := by
  obtain ⟨tf, tp, t60, thf⟩ := id htx
  obtain ⟨N, hN⟩ : ∃ N, N = hxR t k m 0 := ⟨_, rfl⟩
  rw [← hN]
  have hNm := hxR_le t k m 0
  rw [← hN] at hNm
  refine PM.at (pl := [some (.ref 57), some (.int (nI l)), some (.int (nI m)), none, none]) rfl rfl (by simp [wle, wen]) ?_
  generalize hEN : wEm X 0 0 _ = EN
  have L : ∀ (n : Nat) (j : Nat) (h3 : wH), (m - j < n) → (j ≤ m) → (h3[57]? = some (.inr (7, [.ref 58, .int (nI t.length), .ref 59, .ref 60, .ref 61, .ref 62, .int (nI (k + j)), .int (bI g0), .int (dp), .ref 63, .ref 64, .ref 65, .ref 66, .int (wr), .int (fi), .ref 67]))) → (∀ i, i ≠ 57 → h3[i]? = h[i]?) → (hxR t k (m - j) j = N) → WP X M_MO_hexDigits (wR 1 0 0) 0 EN 0 0 5 [some (.ref 57), some (.int (nI l)), some (.int (nI m)), some (.int (hvI t k j)), some (.int (nI j))] [] h3 := by
    intro n
    induction n with
    | zero => intro j h3 k1 k2 k3 k4 k5; omega
    | succ n ih =>
      intro j h3 k1 k2 k3 k4 k5
      have tp3 := (k4 58 (by omega)).trans tp
      refine w_iload d_MO_hexDigits_5 rfl ?_
      refine w_iload_n d_MO_hexDigits_7 rfl ?_
      suffices J74 : (j = N) → WP X M_MO_hexDigits (wR 1 0 0) 0 EN 0 0 74 [some (.ref 57), some (.int (nI l)), some (.int (nI m)), some (.int (hvI t k j)), some (.int (nI j))] [] h3 by
        refine w_icmp_ge (tgt := 74) d_MO_hexDigits_8 rfl (fun c8 => ?_) (fun c8 => ?_)
        · have c8 := (nI_leI (a := m) (b := j) (by omega) (by omega)).mp c8
          have hfin : j = N := by rw [show m - j = 0 by omega] at k5; exact k5
          exact J74 hfin
        · have c8 : j < m := Nat.not_le.mp (fun z => c8 ((nI_leI (a := m) (b := j) (by omega) (by omega)).mpr z))
          rw [show m - j = (m - (j + 1)) + 1 by omega] at k5
          unfold hxR at k5
          refine w_aload_n d_MO_hexDigits_11 rfl rfl ?_
          refine w_get d_MO_hexDigits_12 f_MO_86 k3 rfl ?_
          refine w_aload_n d_MO_hexDigits_15 rfl rfl ?_
          refine w_get d_MO_hexDigits_16 f_MO_43 k3 rfl ?_
          refine w_icmp_ge (tgt := 74) d_MO_hexDigits_19 rfl (fun c19 => ?_) (fun c19 => ?_)
          · have c19 := (nI_leI (a := t.length) (b := k + j) (by omega) (by omega)).mp c19
            have hfin : j = N := by rw [if_pos (by unfold cA; rw [List.getElem?_eq_none c19]; exact hxI_none)] at k5; exact k5
            exact J74 hfin
          · have c19 : k + j < t.length := Nat.not_le.mp (fun z => c19 ((nI_leI (a := t.length) (b := k + j) (by omega) (by omega)).mpr z))
            obtain ⟨y, hy⟩ := t_at c19
            have hca := cA_at hy
            refine w_aload_n d_MO_hexDigits_22 rfl rfl ?_
            refine w_get d_MO_hexDigits_23 f_MO_7 k3 rfl ?_
            refine w_aload_n d_MO_hexDigits_26 rfl rfl ?_
            refine w_get d_MO_hexDigits_27 f_MO_86 k3 rfl ?_
            refine w_iald d_MO_hexDigits_30 tp3 (vp_in_nI (by omega) (by decide)) ?_
            refine w_topi (y := nI y) (by rw [nI_clamp (by omega)]; exact thf _ _ hy) ?_
            refine w_callS (as := [.int (nI y)]) (st := []) d_MO_hexDigits_31 yM_MO_hex l_MO_89 sM_MO_hex rfl rfl (m_MO_hex) (by decide) (by decide) (by decide) (by decide) (Nat.le_of_ble_eq_true rfl) ?_
            rintro _ h9_1 ⟨rfl, e9_1⟩
            rw [e9_1]
            refine w_eq (st' := [.int (hxI (nI y))]) rfl ?_
            refine w_if_lt (tgt := 74) d_MO_hexDigits_34 rfl (fun c34 => ?_) (fun c34 => ?_)
            · have hfin : j = N := by rw [if_pos (by rw [hca]; exact hxI_neg.mp c34)] at k5; exact k5
              exact J74 hfin
            · rw [if_neg (by rw [hca]; exact fun z => c34 (hxI_neg.mpr z))] at k5
              refine w_bipush (v := nI 16) d_MO_hexDigits_37 (by decide) ?_
              refine w_iload_n d_MO_hexDigits_39 rfl ?_
              refine w_imul d_MO_hexDigits_40 ?_
              refine w_aload_n d_MO_hexDigits_41 rfl rfl ?_
              refine w_get d_MO_hexDigits_42 f_MO_7 k3 rfl ?_
              refine w_aload_n d_MO_hexDigits_45 rfl rfl ?_
              refine w_get d_MO_hexDigits_46 f_MO_86 k3 rfl ?_
              refine w_iald d_MO_hexDigits_49 tp3 (vp_in_nI (by omega) (by decide)) ?_
              refine w_topi (y := nI y) (by rw [nI_clamp (by omega)]; exact thf _ _ hy) ?_
              refine w_callS (as := [.int (nI y)]) (st := [.int ((nI 16 * hvI t k j))]) d_MO_hexDigits_50 yM_MO_hex l_MO_89 sM_MO_hex rfl rfl (m_MO_hex) (by decide) (by decide) (by decide) (by decide) (Nat.le_of_ble_eq_true rfl) ?_
              rintro _ h9_2 ⟨rfl, e9_2⟩
              rw [e9_2]
              refine w_eq (st' := [.int (hxI (nI y)), .int ((nI 16 * hvI t k j))]) rfl ?_
              refine w_iadd d_MO_hexDigits_53 ?_
              refine w_topi (y := hvI t k (j + 1)) (by show _ = hvI t k j * nI 16 + hxI (cA t (k + j)); rw [hca, Int32.mul_comm]) ?_
              refine w_istore_n d_MO_hexDigits_54 (by decide) ?_
              refine w_pl (pl' := [some (.ref 57), some (.int (nI l)), some (.int (nI m)), some (.int (hvI t k (j + 1))), some (.int (nI j))]) rfl ?_
              refine w_aload_n d_MO_hexDigits_55 rfl rfl ?_
              refine w_aload_n d_MO_hexDigits_56 rfl rfl ?_
              refine w_get d_MO_hexDigits_57 f_MO_86 k3 rfl ?_
              refine w_iconst (v := nI 1) d_MO_hexDigits_60 (by decide) ?_
              refine w_iadd d_MO_hexDigits_61 ?_
              refine w_topi (y := nI (k + j + 1)) (nI_add _ _) ?_
              refine w_put d_MO_hexDigits_62 f_MO_86 rfl k3 rfl rfl rfl ?_
              refine w_nm (fun h3 e3 => ?_)
              have k3_3 := wS_eq e3 k3
              have tp3_3 := wS_ne e3 (by omega) tp3
              refine w_iload d_MO_hexDigits_65 rfl ?_
              refine w_iconst (v := nI 1) d_MO_hexDigits_67 (by decide) ?_
              refine w_iadd d_MO_hexDigits_68 ?_
              refine w_topi (y := nI (j + 1)) (nI_1 _) ?_
              refine w_istore d_MO_hexDigits_69 (by decide) ?_
              refine w_pl (pl' := [some (.ref 57), some (.int (nI l)), some (.int (nI m)), some (.int (hvI t k (j + 1))), some (.int (nI (j + 1)))]) rfl ?_
              refine w_goto (tgt := 5) d_MO_hexDigits_71 rfl ?_
              exact ih (j + 1) h3 (by omega) (by omega) k3_3 (fun i hi => by rw [wS_off e3 (by omega)]; exact k4 i hi) k5
      intro hfin
      refine w_aload_n d_MO_hexDigits_74 rfl rfl ?_
      refine w_aload_n d_MO_hexDigits_75 rfl rfl ?_
      refine w_get d_MO_hexDigits_76 f_MO_93 k3 rfl ?_
      suffices J93 : WP X M_MO_hexDigits (wR 1 0 0) 0 EN 0 0 93 [some (.ref 57), some (.int (nI l)), some (.int (nI m)), some (.int (hvI t k j)), some (.int (nI j))] [.int (bI (g0 && decide (l ≤ N))), .ref 57] h3 by
        refine w_if_eq (tgt := 92) d_MO_hexDigits_79 rfl (fun c79 => ?_) (fun c79 => ?_)
        · have c79 := bI_f c79
          refine w_iconst (v := nI 0) d_MO_hexDigits_92 (by decide) ?_
          exact w_topi (by rw [c79]; rfl) J93
        · have c79 := bI_t c79
          refine w_iload d_MO_hexDigits_82 rfl ?_
          refine w_iload_n d_MO_hexDigits_84 rfl ?_
          refine w_icmp_lt (tgt := 92) d_MO_hexDigits_85 rfl (fun c85 => ?_) (fun c85 => ?_)
          · have c85 := (nI_ltI (by omega) (by omega)).mp c85
            refine w_iconst (v := nI 0) d_MO_hexDigits_92 (by decide) ?_
            exact w_topi (by rw [c79, decide_eq_false (by omega)]; rfl) J93
          · have c85 : ¬ j < l := fun z => c85 ((nI_ltI (by omega) (by omega)).mpr z)
            refine w_iconst (v := nI 1) d_MO_hexDigits_88 (by decide) ?_
            refine w_goto (tgt := 93) d_MO_hexDigits_89 rfl ?_
            exact w_topi (by rw [c79, decide_eq_true (by omega)]; rfl) J93
      refine w_put d_MO_hexDigits_93 f_MO_93 rfl k3 rfl (bI_nar _) (bI_fit _) ?_
      refine w_nm (fun h4 e4 => ?_)
      have k3_4 := wS_eq e4 k3
      have tp3_4 := wS_ne e4 (by omega) tp3
      refine w_iload_n d_MO_hexDigits_96 rfl ?_
      rw [← hEN]
      refine w_iret d_MO_hexDigits_97 rfl ?_
      rw [← hfin] at *
      exact ⟨rfl, k3_4, fun i hi => by rw [wS_off e4 (by omega)]; exact k4 i hi⟩
  refine w_iconst (v := nI 0) d_MO_hexDigits_0 (by decide) ?_
  refine w_istore_n d_MO_hexDigits_1 (by decide) ?_
  refine w_pl (pl' := [some (.ref 57), some (.int (nI l)), some (.int (nI m)), some (.int (nI 0)), none]) rfl ?_
  refine w_iconst (v := nI 0) d_MO_hexDigits_2 (by decide) ?_
  refine w_istore d_MO_hexDigits_3 (by decide) ?_
  refine w_pl (pl' := [some (.ref 57), some (.int (nI l)), some (.int (nI m)), some (.int (nI 0)), some (.int (nI 0))]) rfl ?_
  exact L (m + 1) 0 h (by omega) (Nat.zero_le _) hx (fun _ _ => rfl) hN.symm
set_option maxHeartbeats 4000000 in
set_option maxRecDepth 100000 in
theorem m_MO_expect {h : wH} {t : List Nat} {dp wr fi : Int32} {g0 : Bool} {k c : Nat} (hx : h[57]? = some (.inr (7, [.ref 58, .int (nI t.length), .ref 59, .ref 60, .ref 61, .ref 62, .int (nI k), .int (bI g0), .int (dp), .ref 63, .ref 64, .ref 65, .ref 66, .int (wr), .int (fi), .ref 67]))) (htx : mT h t) (ht31 : ∀ x ∈ t, x < 1114112) (hk : k < 2 ^ 20) (hc : c < 2 ^ 31) : PM X M_MO_expect 1 0 0 [.ref 57, .int (nI c)] h (fun z h' => z = none ∧ h'[57]? = some (.inr (7, [.ref 58, .int (nI t.length), .ref 59, .ref 60, .ref 61, .ref 62, .int (nI (k + 1)), .int (bI (g0 && decide (t[k]? = some c))), .int (dp), .ref 63, .ref 64, .ref 65, .ref 66, .int (wr), .int (fi), .ref 67])) ∧ ∀ j, j ≠ 57 → h'[j]? = h[j]?) := by
  obtain ⟨tf, tp, t60, thf⟩ := id htx
  refine PM.at (pl := [some (.ref 57), some (.int (nI c))]) rfl rfl (by simp [wle, wen]) ?_
  generalize hEN : wEm X 0 0 _ = EN
  refine w_aload_n d_MO_expect_0 rfl rfl ?_
  refine w_aload_n d_MO_expect_1 rfl rfl ?_
  refine w_get d_MO_expect_2 f_MO_93 hx rfl ?_
  suffices J25 : WP X M_MO_expect (wR 1 0 0) 0 EN 0 0 25 [some (.ref 57), some (.int (nI c))] [.int (bI (g0 && decide (t[k]? = some c))), .ref 57] h by
    refine w_if_eq (tgt := 24) d_MO_expect_5 rfl (fun c5 => ?_) (fun c5 => ?_)
    · have c5 := bI_f c5
      refine w_iconst (v := nI 0) d_MO_expect_24 (by decide) ?_
      exact w_topi (by rw [c5]; rfl) J25
    · have c5 := bI_t c5
      refine w_aload_n d_MO_expect_8 rfl rfl ?_
      refine w_aload_n d_MO_expect_9 rfl rfl ?_
      refine w_get d_MO_expect_10 f_MO_86 hx rfl ?_
      refine w_iload_n d_MO_expect_13 rfl ?_
      refine w_callV (as := [.int (nI k), .int (nI c)]) (st := [.ref 57]) d_MO_expect_14 yM_MO_is l_MO_83 vM_MO_is hx rfl rfl rfl rfl (m_MO_is hx htx ht31 (by omega) hc) (by decide) (by decide) (by decide) (by decide) (Nat.le_of_ble_eq_true rfl) ?_
      rintro _ h9_1 ⟨rfl, e9_1⟩
      rw [e9_1]
      refine w_eq (st' := [.int (bI (decide (t[k]? = some c))), .ref 57]) rfl ?_
      refine w_if_eq (tgt := 24) d_MO_expect_17 rfl (fun c17 => ?_) (fun c17 => ?_)
      · refine w_iconst (v := nI 0) d_MO_expect_24 (by decide) ?_
        exact w_topi (by rw [c5, bI_f c17]; rfl) J25
      · refine w_iconst (v := nI 1) d_MO_expect_20 (by decide) ?_
        refine w_goto (tgt := 25) d_MO_expect_21 rfl ?_
        exact w_topi (by rw [c5, bI_t c17]; rfl) J25
  refine w_put d_MO_expect_25 f_MO_93 rfl hx rfl (bI_nar _) (bI_fit _) ?_
  refine w_nm (fun h2 e2 => ?_)
  have hx_2 := wS_eq e2 hx
  refine w_aload_n d_MO_expect_28 rfl rfl ?_
  refine w_aload_n d_MO_expect_29 rfl rfl ?_
  refine w_get d_MO_expect_30 f_MO_86 hx_2 rfl ?_
  refine w_iconst (v := nI 1) d_MO_expect_33 (by decide) ?_
  refine w_iadd d_MO_expect_34 ?_
  refine w_topi (y := nI (k + 1)) (nI_1 _) ?_
  refine w_put d_MO_expect_35 f_MO_86 rfl hx_2 rfl rfl rfl ?_
  refine w_nm (fun h3 e3 => ?_)
  have hx_3 := wS_eq e3 hx_2
  rw [← hEN]
  refine w_vret d_MO_expect_38 rfl ?_
  exact ⟨rfl, hx_3, fun j hj => by rw [wS_off e3 (by omega), wS_off e2 (by omega)]⟩
set_option maxHeartbeats 4000000 in
set_option maxRecDepth 100000 in
theorem m_MO_rcA {h : wH} {t : List Nat} {dp wr fi : Int32} {k : Nat} (hx : h[57]? = some (.inr (7, [.ref 58, .int (nI t.length), .ref 59, .ref 60, .ref 61, .ref 62, .int (nI k), .int (nI 1), .int (dp), .ref 63, .ref 64, .ref 65, .ref 66, .int (wr), .int (fi), .ref 67]))) (htx : mT h t) (ht31 : ∀ x ∈ t, x < 1114112) (hk : k < 2 ^ 19) (hn : t[k]? = none) : PM X M_MO_readChar 2 0 0 [.ref 57] h (rcQ t k dp wr fi h) := by
  obtain ⟨tf, tp, t60, thf⟩ := id htx
  have hkl := List.getElem?_eq_none_iff.mp hn
  refine PM.at (pl := [some (.ref 57), none, none]) rfl rfl (by simp [wle, wen]) ?_
  generalize hEN : wEm X 0 0 _ = EN
  refine w_aload_n d_MO_readChar_0 rfl rfl ?_
  refine w_get d_MO_readChar_1 f_MO_86 hx rfl ?_
  refine w_aload_n d_MO_readChar_4 rfl rfl ?_
  refine w_get d_MO_readChar_5 f_MO_43 hx rfl ?_
  refine w_icmp_ge (tgt := 54) d_MO_readChar_8 rfl (fun _ => ?_) (fun z => absurd (nI_le hkl (by omega)) z)
  refine w_aload_n d_MO_readChar_54 rfl rfl ?_
  refine w_iconst (v := nI 0) d_MO_readChar_55 (by decide) ?_
  refine w_put d_MO_readChar_56 f_MO_93 rfl hx rfl rfl rfl ?_
  refine w_nm (fun h1 e1 => ?_)
  have hx_1 := wS_eq e1 hx
  have tp_1 := wS_ne e1 (by omega) tp
  refine w_iconst (v := nI 0) d_MO_readChar_59 (by decide) ?_
  rw [← hEN]
  refine w_iret d_MO_readChar_60 rfl ?_
  have hrc : rc t k = none := rc_none hn
  refine ⟨fun j hj => by rw [wS_off e1 (by omega)], _, _, rfl, by rw [hrc]; exact hx_1, by omega, fun a k1 z => by rw [hrc] at z; cases z⟩
set_option maxHeartbeats 4000000 in
set_option maxRecDepth 100000 in
theorem m_MO_rcB {h : wH} {t : List Nat} {dp wr fi : Int32} {k : Nat} (hx : h[57]? = some (.inr (7, [.ref 58, .int (nI t.length), .ref 59, .ref 60, .ref 61, .ref 62, .int (nI k), .int (nI 1), .int (dp), .ref 63, .ref 64, .ref 65, .ref 66, .int (wr), .int (fi), .ref 67]))) (htx : mT h t) (ht31 : ∀ x ∈ t, x < 1114112) (hk : k < 2 ^ 19) {c : Nat} (hc0 : t[k]? = some c) (hbad : c = 32 ∨ (spc c = true ∧ c ≠ 92)) : PM X M_MO_readChar 2 0 0 [.ref 57] h (rcQ t k dp wr fi h) := by
  obtain ⟨tf, tp, t60, thf⟩ := id htx
  have hkl := lx_lt hc0
  have hcl := ht31 c (List.mem_of_getElem? hc0)
  refine PM.at (pl := [some (.ref 57), none, none]) rfl rfl (by simp [wle, wen]) ?_
  generalize hEN : wEm X 0 0 _ = EN
  refine w_aload_n d_MO_readChar_0 rfl rfl ?_
  refine w_get d_MO_readChar_1 f_MO_86 hx rfl ?_
  refine w_aload_n d_MO_readChar_4 rfl rfl ?_
  refine w_get d_MO_readChar_5 f_MO_43 hx rfl ?_
  refine w_icmp_ge (tgt := 54) d_MO_readChar_8 rfl (fun z => absurd z (nI_ge hkl (by omega))) (fun _ => ?_)
  refine w_aload_n d_MO_readChar_11 rfl rfl ?_
  refine w_get d_MO_readChar_12 f_MO_7 hx rfl ?_
  refine w_aload_n d_MO_readChar_15 rfl rfl ?_
  refine w_get d_MO_readChar_16 f_MO_86 hx rfl ?_
  refine w_iald d_MO_readChar_19 tp (vp_in_nI (by omega) (by decide)) ?_
  refine w_topi (y := nI c) (by rw [nI_clamp (by omega)]; exact thf _ _ hc0) ?_
  refine w_bipush (v := nI 32) d_MO_readChar_20 (by decide) ?_
  refine w_icmp_eq (tgt := 54) d_MO_readChar_22 rfl (fun c22 => ?_) (fun c22 => ?_)
  · have c22 : c = 32 := (nI_eq (by omega) (by decide)).mp c22
    refine w_aload_n d_MO_readChar_54 rfl rfl ?_
    refine w_iconst (v := nI 0) d_MO_readChar_55 (by decide) ?_
    refine w_put d_MO_readChar_56 f_MO_93 rfl hx rfl rfl rfl ?_
    refine w_nm (fun h1 e1 => ?_)
    have hx_1 := wS_eq e1 hx
    have tp_1 := wS_ne e1 (by omega) tp
    refine w_iconst (v := nI 0) d_MO_readChar_59 (by decide) ?_
    rw [← hEN]
    refine w_iret d_MO_readChar_60 rfl ?_
    have hrc : rc t k = none := rc_sp hc0 hbad
    refine ⟨fun j hj => by rw [wS_off e1 (by omega)], _, _, rfl, by rw [hrc]; exact hx_1, by omega, fun a k1 z => by rw [hrc] at z; cases z⟩
  · have c22 : ¬ c = 32 := fun z => c22 (by rw [z])
    obtain ⟨hs1, hs2⟩ : spc c = true ∧ c ≠ 92 := hbad.elim (fun z => absurd z c22) id
    refine w_aload_n d_MO_readChar_25 rfl rfl ?_
    refine w_get d_MO_readChar_26 f_MO_7 hx rfl ?_
    refine w_aload_n d_MO_readChar_29 rfl rfl ?_
    refine w_get d_MO_readChar_30 f_MO_86 hx rfl ?_
    refine w_iald d_MO_readChar_33 tp (vp_in_nI (by omega) (by decide)) ?_
    refine w_topi (y := nI c) (by rw [nI_clamp (by omega)]; exact thf _ _ hc0) ?_
    refine w_callS (as := [.int (nI c)]) (st := []) d_MO_readChar_34 yM_MO_special l_MO_97 sM_MO_special rfl rfl (m_MO_special (by omega)) (by decide) (by decide) (by decide) (by decide) (Nat.le_of_ble_eq_true rfl) ?_
    rintro _ h9_2 ⟨rfl, e9_2⟩
    rw [e9_2]
    refine w_eq (st' := [.int (bI (spc c))]) rfl ?_
    refine w_if_eq (tgt := 61) d_MO_readChar_37 rfl (fun z => absurd z (by rw [hs1]; decide)) (fun _ => ?_)
    refine w_aload_n d_MO_readChar_40 rfl rfl ?_
    refine w_get d_MO_readChar_41 f_MO_7 hx rfl ?_
    refine w_aload_n d_MO_readChar_44 rfl rfl ?_
    refine w_get d_MO_readChar_45 f_MO_86 hx rfl ?_
    refine w_iald d_MO_readChar_48 tp (vp_in_nI (by omega) (by decide)) ?_
    refine w_topi (y := nI c) (by rw [nI_clamp (by omega)]; exact thf _ _ hc0) ?_
    refine w_bipush (v := nI 92) d_MO_readChar_49 (by decide) ?_
    refine w_icmp_eq (tgt := 61) d_MO_readChar_51 rfl (fun z => absurd z (fun z => hs2 ((nI_eq (by omega) (by decide)).mp z))) (fun _ => ?_)
    refine w_aload_n d_MO_readChar_54 rfl rfl ?_
    refine w_iconst (v := nI 0) d_MO_readChar_55 (by decide) ?_
    refine w_put d_MO_readChar_56 f_MO_93 rfl hx rfl rfl rfl ?_
    refine w_nm (fun h3 e3 => ?_)
    have hx_3 := wS_eq e3 hx
    have tp_3 := wS_ne e3 (by omega) tp
    refine w_iconst (v := nI 0) d_MO_readChar_59 (by decide) ?_
    rw [← hEN]
    refine w_iret d_MO_readChar_60 rfl ?_
    have hrc : rc t k = none := rc_sp hc0 hbad
    refine ⟨fun j hj => by rw [wS_off e3 (by omega)], _, _, rfl, by rw [hrc]; exact hx_3, by omega, fun a k1 z => by rw [hrc] at z; cases z⟩
set_option maxHeartbeats 4000000 in
set_option maxRecDepth 100000 in
theorem m_MO_rcC {h : wH} {t : List Nat} {dp wr fi : Int32} {k : Nat} (hx : h[57]? = some (.inr (7, [.ref 58, .int (nI t.length), .ref 59, .ref 60, .ref 61, .ref 62, .int (nI k), .int (nI 1), .int (dp), .ref 63, .ref 64, .ref 65, .ref 66, .int (wr), .int (fi), .ref 67]))) (htx : mT h t) (ht31 : ∀ x ∈ t, x < 1114112) (hk : k < 2 ^ 19) {c : Nat} (hc0 : t[k]? = some c) (h32 : c ≠ 32) (hsp : spc c = false) : PM X M_MO_readChar 2 0 0 [.ref 57] h (rcQ t k dp wr fi h) := by
  obtain ⟨tf, tp, t60, thf⟩ := id htx
  have hkl := lx_lt hc0
  have hcl := ht31 c (List.mem_of_getElem? hc0)
  have h92 : c ≠ 92 := fun z => by rw [z] at hsp; exact absurd hsp (by decide)
  refine PM.at (pl := [some (.ref 57), none, none]) rfl rfl (by simp [wle, wen]) ?_
  generalize hEN : wEm X 0 0 _ = EN
  refine w_aload_n d_MO_readChar_0 rfl rfl ?_
  refine w_get d_MO_readChar_1 f_MO_86 hx rfl ?_
  refine w_aload_n d_MO_readChar_4 rfl rfl ?_
  refine w_get d_MO_readChar_5 f_MO_43 hx rfl ?_
  refine w_icmp_ge (tgt := 54) d_MO_readChar_8 rfl (fun z => absurd z (nI_ge hkl (by omega))) (fun _ => ?_)
  refine w_aload_n d_MO_readChar_11 rfl rfl ?_
  refine w_get d_MO_readChar_12 f_MO_7 hx rfl ?_
  refine w_aload_n d_MO_readChar_15 rfl rfl ?_
  refine w_get d_MO_readChar_16 f_MO_86 hx rfl ?_
  refine w_iald d_MO_readChar_19 tp (vp_in_nI (by omega) (by decide)) ?_
  refine w_topi (y := nI c) (by rw [nI_clamp (by omega)]; exact thf _ _ hc0) ?_
  refine w_bipush (v := nI 32) d_MO_readChar_20 (by decide) ?_
  refine w_icmp_eq (tgt := 54) d_MO_readChar_22 rfl (fun z => absurd z (fun z => h32 ((nI_eq (by omega) (by decide)).mp z))) (fun _ => ?_)
  refine w_aload_n d_MO_readChar_25 rfl rfl ?_
  refine w_get d_MO_readChar_26 f_MO_7 hx rfl ?_
  refine w_aload_n d_MO_readChar_29 rfl rfl ?_
  refine w_get d_MO_readChar_30 f_MO_86 hx rfl ?_
  refine w_iald d_MO_readChar_33 tp (vp_in_nI (by omega) (by decide)) ?_
  refine w_topi (y := nI c) (by rw [nI_clamp (by omega)]; exact thf _ _ hc0) ?_
  refine w_callS (as := [.int (nI c)]) (st := []) d_MO_readChar_34 yM_MO_special l_MO_97 sM_MO_special rfl rfl (m_MO_special (by omega)) (by decide) (by decide) (by decide) (by decide) (Nat.le_of_ble_eq_true rfl) ?_
  rintro _ h9_1 ⟨rfl, e9_1⟩
  rw [e9_1]
  refine w_eq (st' := [.int (bI (spc c))]) rfl ?_
  refine w_if_eq (tgt := 61) d_MO_readChar_37 rfl (fun _ => ?_) (fun z => absurd (by rw [hsp]; rfl) z)
  refine w_aload_n d_MO_readChar_61 rfl rfl ?_
  refine w_get d_MO_readChar_62 f_MO_7 hx rfl ?_
  refine w_aload_n d_MO_readChar_65 rfl rfl ?_
  refine w_get d_MO_readChar_66 f_MO_86 hx rfl ?_
  refine w_iald d_MO_readChar_69 tp (vp_in_nI (by omega) (by decide)) ?_
  refine w_topi (y := nI c) (by rw [nI_clamp (by omega)]; exact thf _ _ hc0) ?_
  refine w_istore_n d_MO_readChar_70 (by decide) ?_
  refine w_pl (pl' := [some (.ref 57), some (.int (nI c)), none]) rfl ?_
  refine w_aload_n d_MO_readChar_71 rfl rfl ?_
  refine w_aload_n d_MO_readChar_72 rfl rfl ?_
  refine w_get d_MO_readChar_73 f_MO_86 hx rfl ?_
  refine w_iconst (v := nI 1) d_MO_readChar_76 (by decide) ?_
  refine w_iadd d_MO_readChar_77 ?_
  refine w_topi (y := nI (k + 1)) (nI_1 _) ?_
  refine w_put d_MO_readChar_78 f_MO_86 rfl hx rfl rfl rfl ?_
  refine w_nm (fun h2 e2 => ?_)
  have hx_2 := wS_eq e2 hx
  have tp_2 := wS_ne e2 (by omega) tp
  refine w_iload_n d_MO_readChar_81 rfl ?_
  refine w_bipush (v := nI 92) d_MO_readChar_82 (by decide) ?_
  refine w_icmp_eq (tgt := 89) d_MO_readChar_84 rfl (fun z => absurd z (fun z => h92 ((nI_eq (by omega) (by decide)).mp z))) (fun _ => ?_)
  refine w_iload_n d_MO_readChar_87 rfl ?_
  rw [← hEN]
  refine w_iret d_MO_readChar_88 rfl ?_
  have hrc := rc_pl hc0 h32 hsp hcl
  refine ⟨fun j hj => by rw [wS_off e2 (by omega)], _, k + 1, rfl, by rw [hrc]; exact hx_2, by omega, fun a k1 z => by rw [hrc] at z; cases z; exact ⟨rfl, rfl⟩⟩
set_option maxHeartbeats 4000000 in
set_option maxRecDepth 100000 in
theorem m_MO_rcD {h : wH} {t : List Nat} {dp wr fi : Int32} {k : Nat} (hx : h[57]? = some (.inr (7, [.ref 58, .int (nI t.length), .ref 59, .ref 60, .ref 61, .ref 62, .int (nI k), .int (nI 1), .int (dp), .ref 63, .ref 64, .ref 65, .ref 66, .int (wr), .int (fi), .ref 67]))) (htx : mT h t) (ht31 : ∀ x ∈ t, x < 1114112) (hk : k < 2 ^ 19) (hc0 : t[k]? = some 92) (hn : t[k + 1]? = none) : PM X M_MO_readChar 2 0 0 [.ref 57] h (rcQ t k dp wr fi h) := by
  obtain ⟨tf, tp, t60, thf⟩ := id htx
  have hkl := lx_lt hc0
  have hkl1 := List.getElem?_eq_none_iff.mp hn
  refine PM.at (pl := [some (.ref 57), none, none]) rfl rfl (by simp [wle, wen]) ?_
  generalize hEN : wEm X 0 0 _ = EN
  refine w_aload_n d_MO_readChar_0 rfl rfl ?_
  refine w_get d_MO_readChar_1 f_MO_86 hx rfl ?_
  refine w_aload_n d_MO_readChar_4 rfl rfl ?_
  refine w_get d_MO_readChar_5 f_MO_43 hx rfl ?_
  refine w_icmp_ge (tgt := 54) d_MO_readChar_8 rfl (fun z => absurd z (nI_ge hkl (by omega))) (fun _ => ?_)
  refine w_aload_n d_MO_readChar_11 rfl rfl ?_
  refine w_get d_MO_readChar_12 f_MO_7 hx rfl ?_
  refine w_aload_n d_MO_readChar_15 rfl rfl ?_
  refine w_get d_MO_readChar_16 f_MO_86 hx rfl ?_
  refine w_iald d_MO_readChar_19 tp (vp_in_nI (by omega) (by decide)) ?_
  refine w_topi (y := nI 92) (by rw [nI_clamp (by omega)]; exact thf _ _ hc0) ?_
  refine w_bipush (v := nI 32) d_MO_readChar_20 (by decide) ?_
  refine w_icmp_eq (tgt := 54) d_MO_readChar_22 rfl (fun z => absurd z (by decide)) (fun _ => ?_)
  refine w_aload_n d_MO_readChar_25 rfl rfl ?_
  refine w_get d_MO_readChar_26 f_MO_7 hx rfl ?_
  refine w_aload_n d_MO_readChar_29 rfl rfl ?_
  refine w_get d_MO_readChar_30 f_MO_86 hx rfl ?_
  refine w_iald d_MO_readChar_33 tp (vp_in_nI (by omega) (by decide)) ?_
  refine w_topi (y := nI 92) (by rw [nI_clamp (by omega)]; exact thf _ _ hc0) ?_
  refine w_callS (as := [.int (nI 92)]) (st := []) d_MO_readChar_34 yM_MO_special l_MO_97 sM_MO_special rfl rfl (m_MO_special (c := 92) (by decide)) (by decide) (by decide) (by decide) (by decide) (Nat.le_of_ble_eq_true rfl) ?_
  rintro _ h9_1 ⟨rfl, e9_1⟩
  rw [e9_1]
  refine w_eq (st' := [.int (bI (spc 92))]) rfl ?_
  refine w_topi (y := nI 1) (by decide) ?_
  refine w_if_eq (tgt := 61) d_MO_readChar_37 rfl (fun z => absurd z (by decide)) (fun _ => ?_)
  refine w_aload_n d_MO_readChar_40 rfl rfl ?_
  refine w_get d_MO_readChar_41 f_MO_7 hx rfl ?_
  refine w_aload_n d_MO_readChar_44 rfl rfl ?_
  refine w_get d_MO_readChar_45 f_MO_86 hx rfl ?_
  refine w_iald d_MO_readChar_48 tp (vp_in_nI (by omega) (by decide)) ?_
  refine w_topi (y := nI 92) (by rw [nI_clamp (by omega)]; exact thf _ _ hc0) ?_
  refine w_bipush (v := nI 92) d_MO_readChar_49 (by decide) ?_
  refine w_icmp_eq (tgt := 61) d_MO_readChar_51 rfl (fun _ => ?_) (fun z => absurd (by decide) z)
  refine w_aload_n d_MO_readChar_61 rfl rfl ?_
  refine w_get d_MO_readChar_62 f_MO_7 hx rfl ?_
  refine w_aload_n d_MO_readChar_65 rfl rfl ?_
  refine w_get d_MO_readChar_66 f_MO_86 hx rfl ?_
  refine w_iald d_MO_readChar_69 tp (vp_in_nI (by omega) (by decide)) ?_
  refine w_topi (y := nI 92) (by rw [nI_clamp (by omega)]; exact thf _ _ hc0) ?_
  refine w_istore_n d_MO_readChar_70 (by decide) ?_
  refine w_pl (pl' := [some (.ref 57), some (.int (nI 92)), none]) rfl ?_
  refine w_aload_n d_MO_readChar_71 rfl rfl ?_
  refine w_aload_n d_MO_readChar_72 rfl rfl ?_
  refine w_get d_MO_readChar_73 f_MO_86 hx rfl ?_
  refine w_iconst (v := nI 1) d_MO_readChar_76 (by decide) ?_
  refine w_iadd d_MO_readChar_77 ?_
  refine w_topi (y := nI (k + 1)) (nI_1 _) ?_
  refine w_put d_MO_readChar_78 f_MO_86 rfl hx rfl rfl rfl ?_
  refine w_nm (fun h2 e2 => ?_)
  have hx_2 := wS_eq e2 hx
  have tp_2 := wS_ne e2 (by omega) tp
  refine w_iload_n d_MO_readChar_81 rfl ?_
  refine w_bipush (v := nI 92) d_MO_readChar_82 (by decide) ?_
  refine w_icmp_eq (tgt := 89) d_MO_readChar_84 rfl (fun _ => ?_) (fun z => absurd (by decide) z)
  refine w_aload_n d_MO_readChar_89 rfl rfl ?_
  refine w_get d_MO_readChar_90 f_MO_86 hx_2 rfl ?_
  refine w_aload_n d_MO_readChar_93 rfl rfl ?_
  refine w_get d_MO_readChar_94 f_MO_43 hx_2 rfl ?_
  refine w_icmp_lt (tgt := 107) d_MO_readChar_97 rfl (fun z => absurd z (nI_nlt hkl1 (by omega))) (fun _ => ?_)
  refine w_aload_n d_MO_readChar_100 rfl rfl ?_
  refine w_iconst (v := nI 0) d_MO_readChar_101 (by decide) ?_
  refine w_put d_MO_readChar_102 f_MO_93 rfl hx_2 rfl rfl rfl ?_
  refine w_nm (fun h3 e3 => ?_)
  have hx_3 := wS_eq e3 hx_2
  have tp_3 := wS_ne e3 (by omega) tp_2
  refine w_iconst (v := nI 0) d_MO_readChar_105 (by decide) ?_
  rw [← hEN]
  refine w_iret d_MO_readChar_106 rfl ?_
  have hrc : rc t k = none := rc_bs0 hc0 hn
  refine ⟨fun j hj => by rw [wS_off e3 (by omega), wS_off e2 (by omega)], _, _, rfl, by rw [hrc]; exact hx_3, by omega, fun a k1 z => by rw [hrc] at z; cases z⟩
set_option maxHeartbeats 4000000 in
set_option maxRecDepth 100000 in
theorem m_MO_rcE {h : wH} {t : List Nat} {dp wr fi : Int32} {k : Nat} (hx : h[57]? = some (.inr (7, [.ref 58, .int (nI t.length), .ref 59, .ref 60, .ref 61, .ref 62, .int (nI k), .int (nI 1), .int (dp), .ref 63, .ref 64, .ref 65, .ref 66, .int (wr), .int (fi), .ref 67]))) (htx : mT h t) (ht31 : ∀ x ∈ t, x < 1114112) (hk : k < 2 ^ 19) (hc0 : t[k]? = some 92) (hc1 : t[k + 1]? = some 117) : PM X M_MO_readChar 2 0 0 [.ref 57] h (rcQ t k dp wr fi h) := by
  obtain ⟨tf, tp, t60, thf⟩ := id htx
  have hkl := lx_lt hc0
  have hkl1 := lx_lt hc1
  refine PM.at (pl := [some (.ref 57), none, none]) rfl rfl (by simp [wle, wen]) ?_
  generalize hEN : wEm X 0 0 _ = EN
  refine w_aload_n d_MO_readChar_0 rfl rfl ?_
  refine w_get d_MO_readChar_1 f_MO_86 hx rfl ?_
  refine w_aload_n d_MO_readChar_4 rfl rfl ?_
  refine w_get d_MO_readChar_5 f_MO_43 hx rfl ?_
  refine w_icmp_ge (tgt := 54) d_MO_readChar_8 rfl (fun z => absurd z (nI_ge hkl (by omega))) (fun _ => ?_)
  refine w_aload_n d_MO_readChar_11 rfl rfl ?_
  refine w_get d_MO_readChar_12 f_MO_7 hx rfl ?_
  refine w_aload_n d_MO_readChar_15 rfl rfl ?_
  refine w_get d_MO_readChar_16 f_MO_86 hx rfl ?_
  refine w_iald d_MO_readChar_19 tp (vp_in_nI (by omega) (by decide)) ?_
  refine w_topi (y := nI 92) (by rw [nI_clamp (by omega)]; exact thf _ _ hc0) ?_
  refine w_bipush (v := nI 32) d_MO_readChar_20 (by decide) ?_
  refine w_icmp_eq (tgt := 54) d_MO_readChar_22 rfl (fun z => absurd z (by decide)) (fun _ => ?_)
  refine w_aload_n d_MO_readChar_25 rfl rfl ?_
  refine w_get d_MO_readChar_26 f_MO_7 hx rfl ?_
  refine w_aload_n d_MO_readChar_29 rfl rfl ?_
  refine w_get d_MO_readChar_30 f_MO_86 hx rfl ?_
  refine w_iald d_MO_readChar_33 tp (vp_in_nI (by omega) (by decide)) ?_
  refine w_topi (y := nI 92) (by rw [nI_clamp (by omega)]; exact thf _ _ hc0) ?_
  refine w_callS (as := [.int (nI 92)]) (st := []) d_MO_readChar_34 yM_MO_special l_MO_97 sM_MO_special rfl rfl (m_MO_special (c := 92) (by decide)) (by decide) (by decide) (by decide) (by decide) (Nat.le_of_ble_eq_true rfl) ?_
  rintro _ h9_1 ⟨rfl, e9_1⟩
  rw [e9_1]
  refine w_eq (st' := [.int (bI (spc 92))]) rfl ?_
  refine w_topi (y := nI 1) (by decide) ?_
  refine w_if_eq (tgt := 61) d_MO_readChar_37 rfl (fun z => absurd z (by decide)) (fun _ => ?_)
  refine w_aload_n d_MO_readChar_40 rfl rfl ?_
  refine w_get d_MO_readChar_41 f_MO_7 hx rfl ?_
  refine w_aload_n d_MO_readChar_44 rfl rfl ?_
  refine w_get d_MO_readChar_45 f_MO_86 hx rfl ?_
  refine w_iald d_MO_readChar_48 tp (vp_in_nI (by omega) (by decide)) ?_
  refine w_topi (y := nI 92) (by rw [nI_clamp (by omega)]; exact thf _ _ hc0) ?_
  refine w_bipush (v := nI 92) d_MO_readChar_49 (by decide) ?_
  refine w_icmp_eq (tgt := 61) d_MO_readChar_51 rfl (fun _ => ?_) (fun z => absurd (by decide) z)
  refine w_aload_n d_MO_readChar_61 rfl rfl ?_
  refine w_get d_MO_readChar_62 f_MO_7 hx rfl ?_
  refine w_aload_n d_MO_readChar_65 rfl rfl ?_
  refine w_get d_MO_readChar_66 f_MO_86 hx rfl ?_
  refine w_iald d_MO_readChar_69 tp (vp_in_nI (by omega) (by decide)) ?_
  refine w_topi (y := nI 92) (by rw [nI_clamp (by omega)]; exact thf _ _ hc0) ?_
  refine w_istore_n d_MO_readChar_70 (by decide) ?_
  refine w_pl (pl' := [some (.ref 57), some (.int (nI 92)), none]) rfl ?_
  refine w_aload_n d_MO_readChar_71 rfl rfl ?_
  refine w_aload_n d_MO_readChar_72 rfl rfl ?_
  refine w_get d_MO_readChar_73 f_MO_86 hx rfl ?_
  refine w_iconst (v := nI 1) d_MO_readChar_76 (by decide) ?_
  refine w_iadd d_MO_readChar_77 ?_
  refine w_topi (y := nI (k + 1)) (nI_1 _) ?_
  refine w_put d_MO_readChar_78 f_MO_86 rfl hx rfl rfl rfl ?_
  refine w_nm (fun h2 e2 => ?_)
  have hx_2 := wS_eq e2 hx
  have tp_2 := wS_ne e2 (by omega) tp
  refine w_iload_n d_MO_readChar_81 rfl ?_
  refine w_bipush (v := nI 92) d_MO_readChar_82 (by decide) ?_
  refine w_icmp_eq (tgt := 89) d_MO_readChar_84 rfl (fun _ => ?_) (fun z => absurd (by decide) z)
  refine w_aload_n d_MO_readChar_89 rfl rfl ?_
  refine w_get d_MO_readChar_90 f_MO_86 hx_2 rfl ?_
  refine w_aload_n d_MO_readChar_93 rfl rfl ?_
  refine w_get d_MO_readChar_94 f_MO_43 hx_2 rfl ?_
  refine w_icmp_lt (tgt := 107) d_MO_readChar_97 rfl (fun _ => ?_) (fun z => absurd (nI_lt hkl1 (by omega)) z)
  refine w_aload_n d_MO_readChar_107 rfl rfl ?_
  refine w_get d_MO_readChar_108 f_MO_7 hx_2 rfl ?_
  refine w_aload_n d_MO_readChar_111 rfl rfl ?_
  refine w_get d_MO_readChar_112 f_MO_86 hx_2 rfl ?_
  refine w_iald d_MO_readChar_115 tp_2 (vp_in_nI (by omega) (by decide)) ?_
  refine w_topi (y := nI 117) (by rw [nI_clamp (by omega)]; exact thf _ _ hc1) ?_
  refine w_istore_n d_MO_readChar_116 (by decide) ?_
  refine w_pl (pl' := [some (.ref 57), some (.int (nI 117)), none]) rfl ?_
  refine w_aload_n d_MO_readChar_117 rfl rfl ?_
  refine w_aload_n d_MO_readChar_118 rfl rfl ?_
  refine w_get d_MO_readChar_119 f_MO_86 hx_2 rfl ?_
  refine w_iconst (v := nI 1) d_MO_readChar_122 (by decide) ?_
  refine w_iadd d_MO_readChar_123 ?_
  refine w_topi (y := nI (k + 1 + 1)) (nI_add _ _) ?_
  refine w_put d_MO_readChar_124 f_MO_86 rfl hx_2 rfl rfl rfl ?_
  refine w_nm (fun h3 e3 => ?_)
  have hx_3 := wS_eq e3 hx_2
  have tp_3 := wS_ne e3 (by omega) tp_2
  refine w_iload_n d_MO_readChar_127 rfl ?_
  refine w_bipush (v := nI 117) d_MO_readChar_128 (by decide) ?_
  refine w_icmp_ne (tgt := 140) d_MO_readChar_130 rfl (fun z => absurd (by decide) z) (fun _ => ?_)
  refine w_aload_n d_MO_readChar_133 rfl rfl ?_
  refine w_iconst (v := nI 4) d_MO_readChar_134 (by decide) ?_
  refine w_iconst (v := nI 4) d_MO_readChar_135 (by decide) ?_
  have hkp : ∀ j, j ≠ 57 → h3[j]? = h[j]? := fun j hj => by rw [wS_off e3 (by omega), wS_off e2 (by omega)]
  refine w_callV (as := [.int (nI 4), .int (nI 4)]) (st := []) d_MO_readChar_136 yM_MO_hexDigits l_MO_101 vM_MO_hexDigits hx_3 rfl rfl rfl rfl (m_MO_hexD (g0 := true) (k := k + 1 + 1) (l := 4) (m := 4) hx_3 (htx.keep hkp) ht31 (by omega) (by decide) (by decide)) (by decide) (by decide) (by decide) (by decide) (Nat.le_of_ble_eq_true rfl) ?_
  rintro _ h2_ ⟨rfl, hx2, hk2⟩
  refine w_eq (st' := [.int (hvI t (k + 1 + 1) (hxR t (k + 1 + 1) 4 0))]) rfl ?_
  rw [← hEN]
  refine w_iret d_MO_readChar_139 rfl ?_
  have hrc := rc_u hc0 hc1
  have hle := hxR_le t (k + 2) 4 0
  rw [show k + 1 + 1 = k + 2 from rfl] at hx2 ⊢
  by_cases h4 : hxR t (k + 2) 4 0 = 4
  · rw [if_pos h4] at hrc
    rw [h4] at hx2 ⊢
    obtain ⟨v, hv, he⟩ := hvI_d t (k + 2) 4 (fun j hj => hxR_all t (k + 2) 4 0 4 h4 j (by omega) hj)
    refine ⟨fun j hj => (hk2 j hj).trans (hkp j hj), _, k + 6, rfl, by rw [hrc]; exact hx2, by omega, fun a k1 z => ?_⟩
    rw [hrc] at z; cases z
    refine ⟨?_, rfl⟩
    rw [he, nV_nI (by omega)]
  · rw [if_neg h4] at hrc
    rw [show decide (4 ≤ hxR t (k + 2) 4 0) = false from decide_eq_false (by omega)] at hx2
    exact ⟨fun j hj => (hk2 j hj).trans (hkp j hj), _, _, rfl, by rw [hrc]; exact hx2, by omega, fun a k1 z => by rw [hrc] at z; cases z⟩
set_option maxHeartbeats 4000000 in
set_option maxRecDepth 100000 in
theorem m_MO_rcF {h : wH} {t : List Nat} {dp wr fi : Int32} {k : Nat} (hx : h[57]? = some (.inr (7, [.ref 58, .int (nI t.length), .ref 59, .ref 60, .ref 61, .ref 62, .int (nI k), .int (nI 1), .int (dp), .ref 63, .ref 64, .ref 65, .ref 66, .int (wr), .int (fi), .ref 67]))) (htx : mT h t) (ht31 : ∀ x ∈ t, x < 1114112) (hk : k < 2 ^ 19) (hc0 : t[k]? = some 92) (hc1 : t[k + 1]? = some 120) : PM X M_MO_readChar 2 0 0 [.ref 57] h (rcQ t k dp wr fi h) := by
  obtain ⟨tf, tp, t60, thf⟩ := id htx
  have hkl := lx_lt hc0
  have hkl1 := lx_lt hc1
  refine PM.at (pl := [some (.ref 57), none, none]) rfl rfl (by simp [wle, wen]) ?_
  generalize hEN : wEm X 0 0 _ = EN
  refine w_aload_n d_MO_readChar_0 rfl rfl ?_
  refine w_get d_MO_readChar_1 f_MO_86 hx rfl ?_
  refine w_aload_n d_MO_readChar_4 rfl rfl ?_
  refine w_get d_MO_readChar_5 f_MO_43 hx rfl ?_
  refine w_icmp_ge (tgt := 54) d_MO_readChar_8 rfl (fun z => absurd z (nI_ge hkl (by omega))) (fun _ => ?_)
  refine w_aload_n d_MO_readChar_11 rfl rfl ?_
  refine w_get d_MO_readChar_12 f_MO_7 hx rfl ?_
  refine w_aload_n d_MO_readChar_15 rfl rfl ?_
  refine w_get d_MO_readChar_16 f_MO_86 hx rfl ?_
  refine w_iald d_MO_readChar_19 tp (vp_in_nI (by omega) (by decide)) ?_
  refine w_topi (y := nI 92) (by rw [nI_clamp (by omega)]; exact thf _ _ hc0) ?_
  refine w_bipush (v := nI 32) d_MO_readChar_20 (by decide) ?_
  refine w_icmp_eq (tgt := 54) d_MO_readChar_22 rfl (fun z => absurd z (by decide)) (fun _ => ?_)
  refine w_aload_n d_MO_readChar_25 rfl rfl ?_
  refine w_get d_MO_readChar_26 f_MO_7 hx rfl ?_
  refine w_aload_n d_MO_readChar_29 rfl rfl ?_
  refine w_get d_MO_readChar_30 f_MO_86 hx rfl ?_
  refine w_iald d_MO_readChar_33 tp (vp_in_nI (by omega) (by decide)) ?_
  refine w_topi (y := nI 92) (by rw [nI_clamp (by omega)]; exact thf _ _ hc0) ?_
  refine w_callS (as := [.int (nI 92)]) (st := []) d_MO_readChar_34 yM_MO_special l_MO_97 sM_MO_special rfl rfl (m_MO_special (c := 92) (by decide)) (by decide) (by decide) (by decide) (by decide) (Nat.le_of_ble_eq_true rfl) ?_
  rintro _ h9_1 ⟨rfl, e9_1⟩
  rw [e9_1]
  refine w_eq (st' := [.int (bI (spc 92))]) rfl ?_
  refine w_topi (y := nI 1) (by decide) ?_
  refine w_if_eq (tgt := 61) d_MO_readChar_37 rfl (fun z => absurd z (by decide)) (fun _ => ?_)
  refine w_aload_n d_MO_readChar_40 rfl rfl ?_
  refine w_get d_MO_readChar_41 f_MO_7 hx rfl ?_
  refine w_aload_n d_MO_readChar_44 rfl rfl ?_
  refine w_get d_MO_readChar_45 f_MO_86 hx rfl ?_
  refine w_iald d_MO_readChar_48 tp (vp_in_nI (by omega) (by decide)) ?_
  refine w_topi (y := nI 92) (by rw [nI_clamp (by omega)]; exact thf _ _ hc0) ?_
  refine w_bipush (v := nI 92) d_MO_readChar_49 (by decide) ?_
  refine w_icmp_eq (tgt := 61) d_MO_readChar_51 rfl (fun _ => ?_) (fun z => absurd (by decide) z)
  refine w_aload_n d_MO_readChar_61 rfl rfl ?_
  refine w_get d_MO_readChar_62 f_MO_7 hx rfl ?_
  refine w_aload_n d_MO_readChar_65 rfl rfl ?_
  refine w_get d_MO_readChar_66 f_MO_86 hx rfl ?_
  refine w_iald d_MO_readChar_69 tp (vp_in_nI (by omega) (by decide)) ?_
  refine w_topi (y := nI 92) (by rw [nI_clamp (by omega)]; exact thf _ _ hc0) ?_
  refine w_istore_n d_MO_readChar_70 (by decide) ?_
  refine w_pl (pl' := [some (.ref 57), some (.int (nI 92)), none]) rfl ?_
  refine w_aload_n d_MO_readChar_71 rfl rfl ?_
  refine w_aload_n d_MO_readChar_72 rfl rfl ?_
  refine w_get d_MO_readChar_73 f_MO_86 hx rfl ?_
  refine w_iconst (v := nI 1) d_MO_readChar_76 (by decide) ?_
  refine w_iadd d_MO_readChar_77 ?_
  refine w_topi (y := nI (k + 1)) (nI_1 _) ?_
  refine w_put d_MO_readChar_78 f_MO_86 rfl hx rfl rfl rfl ?_
  refine w_nm (fun h2 e2 => ?_)
  have hx_2 := wS_eq e2 hx
  have tp_2 := wS_ne e2 (by omega) tp
  refine w_iload_n d_MO_readChar_81 rfl ?_
  refine w_bipush (v := nI 92) d_MO_readChar_82 (by decide) ?_
  refine w_icmp_eq (tgt := 89) d_MO_readChar_84 rfl (fun _ => ?_) (fun z => absurd (by decide) z)
  refine w_aload_n d_MO_readChar_89 rfl rfl ?_
  refine w_get d_MO_readChar_90 f_MO_86 hx_2 rfl ?_
  refine w_aload_n d_MO_readChar_93 rfl rfl ?_
  refine w_get d_MO_readChar_94 f_MO_43 hx_2 rfl ?_
  refine w_icmp_lt (tgt := 107) d_MO_readChar_97 rfl (fun _ => ?_) (fun z => absurd (nI_lt hkl1 (by omega)) z)
  refine w_aload_n d_MO_readChar_107 rfl rfl ?_
  refine w_get d_MO_readChar_108 f_MO_7 hx_2 rfl ?_
  refine w_aload_n d_MO_readChar_111 rfl rfl ?_
  refine w_get d_MO_readChar_112 f_MO_86 hx_2 rfl ?_
  refine w_iald d_MO_readChar_115 tp_2 (vp_in_nI (by omega) (by decide)) ?_
  refine w_topi (y := nI 120) (by rw [nI_clamp (by omega)]; exact thf _ _ hc1) ?_
  refine w_istore_n d_MO_readChar_116 (by decide) ?_
  refine w_pl (pl' := [some (.ref 57), some (.int (nI 120)), none]) rfl ?_
  refine w_aload_n d_MO_readChar_117 rfl rfl ?_
  refine w_aload_n d_MO_readChar_118 rfl rfl ?_
  refine w_get d_MO_readChar_119 f_MO_86 hx_2 rfl ?_
  refine w_iconst (v := nI 1) d_MO_readChar_122 (by decide) ?_
  refine w_iadd d_MO_readChar_123 ?_
  refine w_topi (y := nI (k + 1 + 1)) (nI_add _ _) ?_
  refine w_put d_MO_readChar_124 f_MO_86 rfl hx_2 rfl rfl rfl ?_
  refine w_nm (fun h3 e3 => ?_)
  have hx_3 := wS_eq e3 hx_2
  have tp_3 := wS_ne e3 (by omega) tp_2
  refine w_iload_n d_MO_readChar_127 rfl ?_
  refine w_bipush (v := nI 117) d_MO_readChar_128 (by decide) ?_
  refine w_icmp_ne (tgt := 140) d_MO_readChar_130 rfl (fun _ => ?_) (fun z => absurd z (by decide))
  refine w_iload_n d_MO_readChar_140 rfl ?_
  refine w_bipush (v := nI 120) d_MO_readChar_141 (by decide) ?_
  refine w_icmp_ne (tgt := 190) d_MO_readChar_143 rfl (fun z => absurd (by decide) z) (fun _ => ?_)
  refine w_aload_n d_MO_readChar_146 rfl rfl ?_
  refine w_bipush (v := nI 123) d_MO_readChar_147 (by decide) ?_
  have hkp : ∀ j, j ≠ 57 → h3[j]? = h[j]? := fun j hj => by rw [wS_off e3 (by omega), wS_off e2 (by omega)]
  refine w_callV (as := [.int (nI 123)]) (st := []) d_MO_readChar_149 yM_MO_expect l_MO_105 vM_MO_expect hx_3 rfl rfl rfl rfl (m_MO_expect (g0 := true) (k := k + 2) (c := 123) hx_3 (htx.keep hkp) ht31 (by omega) (by decide)) (by decide) (by decide) (by decide) (by decide) (Nat.le_of_ble_eq_true rfl) ?_
  rintro _ h2_ ⟨rfl, hx2, hk2⟩
  refine w_eq (st' := []) rfl ?_
  have hkp2 : ∀ j, j ≠ 57 → h2_[j]? = h[j]? := fun j hj => (hk2 j hj).trans (hkp j hj)
  refine w_aload_n d_MO_readChar_152 rfl rfl ?_
  refine w_iconst (v := nI 1) d_MO_readChar_153 (by decide) ?_
  refine w_bipush (v := nI 6) d_MO_readChar_154 (by decide) ?_
  refine w_callV (as := [.int (nI 1), .int (nI 6)]) (st := []) d_MO_readChar_156 yM_MO_hexDigits l_MO_101 vM_MO_hexDigits hx2 rfl rfl rfl rfl (m_MO_hexD (g0 := true && decide (t[k + 2]? = some 123)) (k := k + 3) (l := 1) (m := 6) hx2 (htx.keep hkp2) ht31 (by omega) (by decide) (by decide)) (by decide) (by decide) (by decide) (by decide) (Nat.le_of_ble_eq_true rfl) ?_
  rintro _ h3_ ⟨rfl, hx3, hk3⟩
  refine w_eq (st' := [.int (hvI t (k + 3) (hxR t (k + 3) 6 0))]) rfl ?_
  have hkp3 : ∀ j, j ≠ 57 → h3_[j]? = h[j]? := fun j hj => (hk3 j hj).trans (hkp2 j hj)
  have hle := hxR_le t (k + 3) 6 0
  refine w_istore_n d_MO_readChar_159 (by decide) ?_
  refine w_pl (pl' := [some (.ref 57), some (.int (nI 120)), some (.int (hvI t (k + 3) (hxR t (k + 3) 6 0)))]) rfl ?_
  refine w_aload_n d_MO_readChar_160 rfl rfl ?_
  refine w_bipush (v := nI 125) d_MO_readChar_161 (by decide) ?_
  refine w_callV (as := [.int (nI 125)]) (st := []) d_MO_readChar_163 yM_MO_expect l_MO_105 vM_MO_expect hx3 rfl rfl rfl rfl (m_MO_expect (c := 125) hx3 (htx.keep hkp3) ht31 (by omega) (by decide)) (by decide) (by decide) (by decide) (by decide) (Nat.le_of_ble_eq_true rfl) ?_
  rintro _ h4_ ⟨rfl, hx4, hk4⟩
  refine w_eq (st' := []) rfl ?_
  have hkp4 : ∀ j, j ≠ 57 → h4_[j]? = h[j]? := fun j hj => (hk4 j hj).trans (hkp3 j hj)
  obtain ⟨v, hv, he⟩ := hvI_d t (k + 3) (hxR t (k + 3) 6 0) (fun j hj => hxR_all t (k + 3) 6 0 _ rfl j (by omega) hj)
  have hv24 : v < 2 ^ 24 := by have : 16 ^ (hxR t (k + 3) 6 0) ≤ 16 ^ 6 := Nat.pow_le_pow_right (by decide) (by omega); omega
  refine w_aload_n d_MO_readChar_166 rfl rfl ?_
  refine w_aload_n d_MO_readChar_167 rfl rfl ?_
  refine w_get d_MO_readChar_168 f_MO_93 hx4 rfl ?_
  suffices J185 : WP X M_MO_readChar (wR 2 0 0) 0 EN 0 0 185 [some (.ref 57), some (.int (nI 120)), some (.int (hvI t (k + 3) (hxR t (k + 3) 6 0)))] [.int (bI (rc t k).isSome), .ref 57] h4_ by
    refine w_if_eq (tgt := 184) d_MO_readChar_171 rfl (fun c171 => ?_) (fun c171 => ?_)
    · have c171 := bI_f c171
      refine w_iconst (v := nI 0) d_MO_readChar_184 (by decide) ?_
      have hrc : rc t k = none := by
        rw [rc_x hc0 hc1, if_neg]
        intro z
        rw [decide_eq_true z.1.1, decide_eq_true (by omega), decide_eq_true z.1.2.2] at c171
        cases c171
      exact w_topi (by rw [hrc]; rfl) J185
    · have c171 := bI_t c171
      refine w_iload_n d_MO_readChar_174 rfl ?_
      refine w_ldc (v := nI 1114112) d_MO_readChar_175 k_MO_42 ?_
      refine w_icmp_ge (tgt := 184) d_MO_readChar_177 rfl (fun c177 => ?_) (fun c177 => ?_)
      · refine w_iconst (v := nI 0) d_MO_readChar_184 (by decide) ?_
        have hrc : rc t k = none := by
          rw [rc_x hc0 hc1, if_neg]
          intro z
          exact Int32.not_lt.mpr c177 z.2.2
        exact w_topi (by rw [hrc]; rfl) J185
      · refine w_iconst (v := nI 1) d_MO_readChar_180 (by decide) ?_
        refine w_goto (tgt := 185) d_MO_readChar_181 rfl ?_
        simp only [Bool.and_eq_true, Bool.true_and, decide_eq_true_eq] at c171
        have hrc := rc_x hc0 hc1
        rw [if_pos ⟨⟨c171.1.1, by omega, c171.2⟩, by rw [he]; exact nI_pos' (by omega), Int32.not_le.mp c177⟩] at hrc
        exact w_topi (by rw [hrc]; rfl) J185
  refine w_put d_MO_readChar_185 f_MO_93 rfl hx4 rfl (bI_nar _) (bI_fit _) ?_
  refine w_nm (fun h4 e4 => ?_)
  have hx4_4 := wS_eq e4 hx4
  refine w_iload_n d_MO_readChar_188 rfl ?_
  rw [← hEN]
  refine w_iret d_MO_readChar_189 rfl ?_
  refine ⟨fun j hj => by rw [wS_off e4 (by omega)]; exact hkp4 j hj, _, _, rfl, hx4_4, by omega, fun a k1 z => ?_⟩
  rw [rc_x hc0 hc1] at z
  split at z
  · cases z; exact ⟨by rw [he, nV, nI_clamp (by omega)], by omega⟩
  · cases z
set_option maxHeartbeats 4000000 in
set_option maxRecDepth 100000 in
theorem m_MO_rcG {h : wH} {t : List Nat} {dp wr fi : Int32} {k : Nat} (hx : h[57]? = some (.inr (7, [.ref 58, .int (nI t.length), .ref 59, .ref 60, .ref 61, .ref 62, .int (nI k), .int (nI 1), .int (dp), .ref 63, .ref 64, .ref 65, .ref 66, .int (wr), .int (fi), .ref 67]))) (htx : mT h t) (ht31 : ∀ x ∈ t, x < 1114112) (hk : k < 2 ^ 19) {c1 : Nat} (hc0 : t[k]? = some 92) (hc1 : t[k + 1]? = some c1) (hu : c1 ≠ 117) (hx9 : c1 ≠ 120) : PM X M_MO_readChar 2 0 0 [.ref 57] h (rcQ t k dp wr fi h) := by
  obtain ⟨tf, tp, t60, thf⟩ := id htx
  have hkl := lx_lt hc0
  have hkl1 := lx_lt hc1
  have hcl1 := ht31 c1 (List.mem_of_getElem? hc1)
  refine PM.at (pl := [some (.ref 57), none, none]) rfl rfl (by simp [wle, wen]) ?_
  generalize hEN : wEm X 0 0 _ = EN
  refine w_aload_n d_MO_readChar_0 rfl rfl ?_
  refine w_get d_MO_readChar_1 f_MO_86 hx rfl ?_
  refine w_aload_n d_MO_readChar_4 rfl rfl ?_
  refine w_get d_MO_readChar_5 f_MO_43 hx rfl ?_
  refine w_icmp_ge (tgt := 54) d_MO_readChar_8 rfl (fun z => absurd z (nI_ge hkl (by omega))) (fun _ => ?_)
  refine w_aload_n d_MO_readChar_11 rfl rfl ?_
  refine w_get d_MO_readChar_12 f_MO_7 hx rfl ?_
  refine w_aload_n d_MO_readChar_15 rfl rfl ?_
  refine w_get d_MO_readChar_16 f_MO_86 hx rfl ?_
  refine w_iald d_MO_readChar_19 tp (vp_in_nI (by omega) (by decide)) ?_
  refine w_topi (y := nI 92) (by rw [nI_clamp (by omega)]; exact thf _ _ hc0) ?_
  refine w_bipush (v := nI 32) d_MO_readChar_20 (by decide) ?_
  refine w_icmp_eq (tgt := 54) d_MO_readChar_22 rfl (fun z => absurd z (by decide)) (fun _ => ?_)
  refine w_aload_n d_MO_readChar_25 rfl rfl ?_
  refine w_get d_MO_readChar_26 f_MO_7 hx rfl ?_
  refine w_aload_n d_MO_readChar_29 rfl rfl ?_
  refine w_get d_MO_readChar_30 f_MO_86 hx rfl ?_
  refine w_iald d_MO_readChar_33 tp (vp_in_nI (by omega) (by decide)) ?_
  refine w_topi (y := nI 92) (by rw [nI_clamp (by omega)]; exact thf _ _ hc0) ?_
  refine w_callS (as := [.int (nI 92)]) (st := []) d_MO_readChar_34 yM_MO_special l_MO_97 sM_MO_special rfl rfl (m_MO_special (c := 92) (by decide)) (by decide) (by decide) (by decide) (by decide) (Nat.le_of_ble_eq_true rfl) ?_
  rintro _ h9_1 ⟨rfl, e9_1⟩
  rw [e9_1]
  refine w_eq (st' := [.int (bI (spc 92))]) rfl ?_
  refine w_topi (y := nI 1) (by decide) ?_
  refine w_if_eq (tgt := 61) d_MO_readChar_37 rfl (fun z => absurd z (by decide)) (fun _ => ?_)
  refine w_aload_n d_MO_readChar_40 rfl rfl ?_
  refine w_get d_MO_readChar_41 f_MO_7 hx rfl ?_
  refine w_aload_n d_MO_readChar_44 rfl rfl ?_
  refine w_get d_MO_readChar_45 f_MO_86 hx rfl ?_
  refine w_iald d_MO_readChar_48 tp (vp_in_nI (by omega) (by decide)) ?_
  refine w_topi (y := nI 92) (by rw [nI_clamp (by omega)]; exact thf _ _ hc0) ?_
  refine w_bipush (v := nI 92) d_MO_readChar_49 (by decide) ?_
  refine w_icmp_eq (tgt := 61) d_MO_readChar_51 rfl (fun _ => ?_) (fun z => absurd (by decide) z)
  refine w_aload_n d_MO_readChar_61 rfl rfl ?_
  refine w_get d_MO_readChar_62 f_MO_7 hx rfl ?_
  refine w_aload_n d_MO_readChar_65 rfl rfl ?_
  refine w_get d_MO_readChar_66 f_MO_86 hx rfl ?_
  refine w_iald d_MO_readChar_69 tp (vp_in_nI (by omega) (by decide)) ?_
  refine w_topi (y := nI 92) (by rw [nI_clamp (by omega)]; exact thf _ _ hc0) ?_
  refine w_istore_n d_MO_readChar_70 (by decide) ?_
  refine w_pl (pl' := [some (.ref 57), some (.int (nI 92)), none]) rfl ?_
  refine w_aload_n d_MO_readChar_71 rfl rfl ?_
  refine w_aload_n d_MO_readChar_72 rfl rfl ?_
  refine w_get d_MO_readChar_73 f_MO_86 hx rfl ?_
  refine w_iconst (v := nI 1) d_MO_readChar_76 (by decide) ?_
  refine w_iadd d_MO_readChar_77 ?_
  refine w_topi (y := nI (k + 1)) (nI_1 _) ?_
  refine w_put d_MO_readChar_78 f_MO_86 rfl hx rfl rfl rfl ?_
  refine w_nm (fun h2 e2 => ?_)
  have hx_2 := wS_eq e2 hx
  have tp_2 := wS_ne e2 (by omega) tp
  refine w_iload_n d_MO_readChar_81 rfl ?_
  refine w_bipush (v := nI 92) d_MO_readChar_82 (by decide) ?_
  refine w_icmp_eq (tgt := 89) d_MO_readChar_84 rfl (fun _ => ?_) (fun z => absurd (by decide) z)
  refine w_aload_n d_MO_readChar_89 rfl rfl ?_
  refine w_get d_MO_readChar_90 f_MO_86 hx_2 rfl ?_
  refine w_aload_n d_MO_readChar_93 rfl rfl ?_
  refine w_get d_MO_readChar_94 f_MO_43 hx_2 rfl ?_
  refine w_icmp_lt (tgt := 107) d_MO_readChar_97 rfl (fun _ => ?_) (fun z => absurd (nI_lt hkl1 (by omega)) z)
  refine w_aload_n d_MO_readChar_107 rfl rfl ?_
  refine w_get d_MO_readChar_108 f_MO_7 hx_2 rfl ?_
  refine w_aload_n d_MO_readChar_111 rfl rfl ?_
  refine w_get d_MO_readChar_112 f_MO_86 hx_2 rfl ?_
  refine w_iald d_MO_readChar_115 tp_2 (vp_in_nI (by omega) (by decide)) ?_
  refine w_topi (y := nI c1) (by rw [nI_clamp (by omega)]; exact thf _ _ hc1) ?_
  refine w_istore_n d_MO_readChar_116 (by decide) ?_
  refine w_pl (pl' := [some (.ref 57), some (.int (nI c1)), none]) rfl ?_
  refine w_aload_n d_MO_readChar_117 rfl rfl ?_
  refine w_aload_n d_MO_readChar_118 rfl rfl ?_
  refine w_get d_MO_readChar_119 f_MO_86 hx_2 rfl ?_
  refine w_iconst (v := nI 1) d_MO_readChar_122 (by decide) ?_
  refine w_iadd d_MO_readChar_123 ?_
  refine w_topi (y := nI (k + 1 + 1)) (nI_add _ _) ?_
  refine w_put d_MO_readChar_124 f_MO_86 rfl hx_2 rfl rfl rfl ?_
  refine w_nm (fun h3 e3 => ?_)
  have hx_3 := wS_eq e3 hx_2
  have tp_3 := wS_ne e3 (by omega) tp_2
  refine w_iload_n d_MO_readChar_127 rfl ?_
  refine w_bipush (v := nI 117) d_MO_readChar_128 (by decide) ?_
  refine w_icmp_ne (tgt := 140) d_MO_readChar_130 rfl (fun _ => ?_) (fun z => absurd z (fun z => hu ((nI_eq (by omega) (by decide)).mp z)))
  refine w_iload_n d_MO_readChar_140 rfl ?_
  refine w_bipush (v := nI 120) d_MO_readChar_141 (by decide) ?_
  refine w_icmp_ne (tgt := 190) d_MO_readChar_143 rfl (fun _ => ?_) (fun z => absurd z (fun z => hx9 ((nI_eq (by omega) (by decide)).mp z)))
  refine w_aload_n d_MO_readChar_190 rfl rfl ?_
  refine w_aload_n d_MO_readChar_191 rfl rfl ?_
  refine w_get d_MO_readChar_192 f_MO_93 hx_3 rfl ?_
  refine w_if_eq (tgt := 221) d_MO_readChar_195 rfl (fun z => absurd z (by decide)) (fun _ => ?_)
  refine w_iload_n d_MO_readChar_198 rfl ?_
  refine w_callS (as := [.int (nI c1)]) (st := [.ref 57]) d_MO_readChar_199 yM_MO_letter l_MO_108 sM_MO_letter rfl rfl (m_MO_letter) (by decide) (by decide) (by decide) (by decide) (Nat.le_of_ble_eq_true rfl) ?_
  rintro _ h9_4 ⟨rfl, e9_4⟩
  rw [e9_4]
  refine w_eq (st' := [.int (bI (ltI (nI c1))), .ref 57]) rfl ?_
  suffices J222 : WP X M_MO_readChar (wR 2 0 0) 0 EN 0 0 222 [some (.ref 57), some (.int (nI c1)), none] [.int (bI (rc t k).isSome), .ref 57] h3 by
    suffices J217 : ¬ (ltI (nI c1) = true ∧ c1 ≠ 110 ∧ c1 ≠ 116) → WP X M_MO_readChar (wR 2 0 0) 0 EN 0 0 217 [some (.ref 57), some (.int (nI c1)), none] [.ref 57] h3 by
      refine w_if_eq (tgt := 217) d_MO_readChar_202 rfl (fun c202 => ?_) (fun c202 => ?_)
      · have c202 := bI_f c202
        exact J217 (fun z => by rw [c202] at z; exact absurd z.1 (by decide))
      · have c202 := bI_t c202
        refine w_iload_n d_MO_readChar_205 rfl ?_
        refine w_bipush (v := nI 110) d_MO_readChar_206 (by decide) ?_
        refine w_icmp_eq (tgt := 217) d_MO_readChar_208 rfl (fun c208 => ?_) (fun c208 => ?_)
        · have c208 : c1 = 110 := (nI_eq (by omega) (by decide)).mp c208
          exact J217 (fun z => z.2.1 c208)
        · have c208 : c1 ≠ 110 := fun z => c208 (by rw [z])
          refine w_iload_n d_MO_readChar_211 rfl ?_
          refine w_bipush (v := nI 116) d_MO_readChar_212 (by decide) ?_
          refine w_icmp_ne (tgt := 221) d_MO_readChar_214 rfl (fun c214 => ?_) (fun c214 => ?_)
          · have c214 : c1 ≠ 116 := fun z => c214 (by rw [z])
            refine w_iconst (v := nI 0) d_MO_readChar_221 (by decide) ?_
            exact w_topi (by rw [rc_e hc0 hc1 hu hx9 hcl1, if_pos ⟨c202, c208, c214⟩]; rfl) J222
          · have c214 : c1 = 116 := (nI_eq (by omega) (by decide)).mp c214
            exact J217 (fun z => z.2.2 c214)
    intro hok
    refine w_iconst (v := nI 1) d_MO_readChar_217 (by decide) ?_
    refine w_goto (tgt := 222) d_MO_readChar_218 rfl ?_
    exact w_topi (by rw [rc_e hc0 hc1 hu hx9 hcl1, if_neg hok]; rfl) J222
  refine w_put d_MO_readChar_222 f_MO_93 rfl hx_3 rfl (bI_nar _) (bI_fit _) ?_
  refine w_nm (fun h5 e5 => ?_)
  have hx_5 := wS_eq e5 hx_3
  have tp_5 := wS_ne e5 (by omega) tp_3
  refine w_iload_n d_MO_readChar_225 rfl ?_
  refine w_bipush (v := nI 110) d_MO_readChar_226 (by decide) ?_
  suffices J248 : WP X M_MO_readChar (wR 2 0 0) 0 EN 0 0 248 [some (.ref 57), some (.int (nI c1)), none] [.int (nI (esV c1))] h5 by
    refine w_icmp_ne (tgt := 236) d_MO_readChar_228 rfl (fun c228 => ?_) (fun c228 => ?_)
    · have c228 : c1 ≠ 110 := fun z => c228 (by rw [z])
      refine w_iload_n d_MO_readChar_236 rfl ?_
      refine w_bipush (v := nI 116) d_MO_readChar_237 (by decide) ?_
      refine w_icmp_ne (tgt := 247) d_MO_readChar_239 rfl (fun c239 => ?_) (fun c239 => ?_)
      · have c239 : c1 ≠ 116 := fun z => c239 (by rw [z])
        refine w_iload_n d_MO_readChar_247 rfl ?_
        exact w_topi (congrArg nI (by unfold esV; rw [if_neg c228, if_neg c239])) J248
      · have c239 : c1 = 116 := (nI_eq (by omega) (by decide)).mp c239
        refine w_bipush (v := nI 9) d_MO_readChar_242 (by decide) ?_
        refine w_goto (tgt := 248) d_MO_readChar_244 rfl ?_
        exact w_topi (congrArg nI (by unfold esV; rw [if_neg c228, if_pos c239])) J248
    · have c228 : c1 = 110 := (nI_eq (by omega) (by decide)).mp c228
      refine w_bipush (v := nI 10) d_MO_readChar_231 (by decide) ?_
      refine w_goto (tgt := 248) d_MO_readChar_233 rfl ?_
      exact w_topi (congrArg nI (by unfold esV; rw [if_pos c228])) J248
  rw [← hEN]
  refine w_iret d_MO_readChar_248 rfl ?_
  refine ⟨fun j hj => by rw [wS_off e5 (by omega), wS_off e3 (by omega), wS_off e2 (by omega)], _, k + 2, rfl, hx_5, by omega, fun a k1 z => ?_⟩
  rw [rc_e hc0 hc1 hu hx9 hcl1] at z
  split at z
  · cases z
  · cases z; exact ⟨rfl, rfl⟩
theorem m_MO_readChar {h : wH} {t : List Nat} {dp wr fi : Int32} {k : Nat} (hx : h[57]? = some (.inr (7, [.ref 58, .int (nI t.length), .ref 59, .ref 60, .ref 61, .ref 62, .int (nI k), .int (nI 1), .int (dp), .ref 63, .ref 64, .ref 65, .ref 66, .int (wr), .int (fi), .ref 67]))) (htx : mT h t) (ht31 : ∀ x ∈ t, x < 1114112) (hk : k < 2 ^ 19) : PM X M_MO_readChar 2 0 0 [.ref 57] h (rcQ t k dp wr fi h) := by
  cases hc0 : t[k]? with
  | none => exact m_MO_rcA hx htx ht31 hk hc0
  | some c =>
    by_cases hbad : c = 32 ∨ (spc c = true ∧ c ≠ 92)
    · exact m_MO_rcB hx htx ht31 hk hc0 hbad
    · by_cases h92 : c = 92
      · subst h92
        cases hc1 : t[k + 1]? with
        | none => exact m_MO_rcD hx htx ht31 hk hc0 hc1
        | some c1 =>
          by_cases hu : c1 = 117
          · subst hu
            exact m_MO_rcE hx htx ht31 hk hc0 hc1
          · by_cases hx9 : c1 = 120
            · subst hx9
              exact m_MO_rcF hx htx ht31 hk hc0 hc1
            · exact m_MO_rcG hx htx ht31 hk hc0 hc1 hu hx9
      · refine m_MO_rcC hx htx ht31 hk hc0 (fun z => hbad (Or.inl z)) ?_
        cases hs : spc c with
        | false => rfl
        | true => exact absurd (Or.inr ⟨hs, h92⟩) hbad
end MO10
