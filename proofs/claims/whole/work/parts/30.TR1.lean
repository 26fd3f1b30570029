/-! TokenRow, one: written by wip/gen/tr1.py -/
/-- the number at place i of a row, -1 behind its end -/
def cA (t : List Nat) (i : Nat) : Int32 := match t[i]? with
  | some x => nI x
  | none => -1
theorem cA_eq {t : List Nat} (ht : ∀ x ∈ t, x < 2 ^ 31) {i c : Nat} (hc : c < 2 ^ 31) : cA t i = nI c ↔ t[i]? = some c := by
  unfold cA
  cases h : t[i]? with
  | none => exact ⟨fun z => absurd z.symm (nI_nm1 hc), fun z => by cases z⟩
  | some x => exact ⟨fun z => by rw [(nI_eq (ht x (List.mem_of_getElem? h)) hc).mp z], fun z => by cases z; rfl⟩
def hxI (x : Int32) : Int32 := if 48 ≤ x ∧ x ≤ 57 then x - 48 else if 97 ≤ x ∧ x ≤ 102 then x - 97 + 10 else if 65 ≤ x ∧ x ≤ 70 then x - 65 + 10 else -1
def ltI (x : Int32) : Bool := decide ((97 ≤ x ∧ x ≤ 122) ∨ (65 ≤ x ∧ x ≤ 90))
theorem i32_nle {x y : Int32} : ¬ x ≤ y ↔ y < x := Int32.not_le
theorem i32_nlt {x y : Int32} : ¬ x < y ↔ y ≤ x := Int32.not_lt
/-- tokens at place p: the text t, the tokens so far, the letters of the last name, the position -/
def hTR (h : wH) (p : Nat) (t : List Nat) (tk : List (Nat × Int32)) (l : List Nat) (pos : Nat) : Prop := ∃ fk fv : Nat → Int32, h[p]? = some (.inr (5, [.ref (p + 1), .ref (p + 3), .ref (p + 4), .ref (p + 5), .int (nI tk.length), .int (nI pos)])) ∧ hCR h (p + 1) t ∧ h[p + 3]? = some (.inl (0, 60, .inl fk)) ∧ h[p + 4]? = some (.inl (0, 60, .inl fv)) ∧ hCR h (p + 5) l ∧ tk.length ≤ 60 ∧ ∀ i q, tk[i]? = some q → fk i = nI q.1 ∧ fv i = q.2
theorem hTR.off {h h' : wH} {p q n : Nat} {t l : List Nat} {tk : List (Nat × Int32)} {pos : Nat} (a : hTR h p t tk l pos) (b : wOff h h' q n) (hd : p + 7 ≤ q ∨ q + n ≤ p) : hTR h' p t tk l pos := by
  obtain ⟨fk, fv, h1, h2, h3, h4, h5, h6⟩ := a
  exact ⟨fk, fv, by rw [b p (by omega)]; exact h1, h2.off b (by omega), by rw [b (p + 3) (by omega)]; exact h3, by rw [b (p + 4) (by omega)]; exact h4, h5.off b (by omega), h6⟩
def kd (tk : List (Nat × Int32)) (i : Nat) : Nat := match tk[i]? with
  | some q => q.1
  | none => 0
def vl (tk : List (Nat × Int32)) (i : Nat) : Int32 := match tk[i]? with
  | some q => q.2
  | none => -1
theorem upd_tk {f g : Nat → Int32} {tk : List (Nat × Int32)} {k : Nat} {v : Int32} (hf : ∀ i q, tk[i]? = some q → f i = nI q.1 ∧ g i = q.2) : ∀ i q, (tk ++ [(k, v)])[i]? = some q → upd f tk.length (nI k) i = nI q.1 ∧ upd g tk.length v i = q.2 := by
  intro i q hq
  by_cases hi : i < tk.length
  · rw [List.getElem?_append_left hi] at hq
    rw [pk_un (by omega), pk_un (by omega)]
    exact hf i q hq
  · rw [List.getElem?_append_right (by omega)] at hq
    have h9 : i - tk.length < 1 := (List.getElem?_eq_some_iff.mp hq).1
    have h8 : i = tk.length := by omega
    subst h8
    rw [Nat.sub_self] at hq
    cases hq
    exact ⟨pk_us, pk_us⟩
section TR1
variable {X : wX}
theorem m_CR_codeN {h : wH} {p i : Nat} {t : List Nat} (hc : hCR h p t) (hi : i < 2 ^ 31) : PM X M_CR_codeAt 0 0 0 [.ref p, .int (nI i)] h (fun r h' => r = some (.int (cA t i)) ∧ h' = h) := by
  have q := m_CR_codeAt (X := X) (k := nI i) hc
  rw [if_neg (nI_pos hi), nI_clamp hi] at q
  exact q
set_option maxHeartbeats 4000000 in
set_option maxRecDepth 100000 in
theorem m_TR_hexDigit {h : wH} {x : Int32} : PM X M_TR_hexDigit 0 0 0 [.int (x)] h (fun r h' => r = some (.int (hxI x)) ∧ h' = h) := by
  refine PM.at (pl := [some (.int (x))]) rfl rfl (by simp [wle, wen]) ?_
  generalize hEN : wEm X 0 0 _ = EN
  refine w_iload_n d_TR_hexDigit_0 rfl ?_
  refine w_bipush (v := nI 48) d_TR_hexDigit_1 (by decide) ?_
  suffices J17 : ¬ ((48 : Int32) ≤ x ∧ x ≤ 57) → WP X M_TR_hexDigit (wR 0 0 0) 0 EN 0 0 17 [some (.int (x))] [] h by
    refine w_icmp_lt (tgt := 17) d_TR_hexDigit_3 rfl (fun c3 => ?_) (fun c3 => ?_)
    · exact J17 (fun z => absurd z.1 (i32_nle.mpr c3))
    · refine w_iload_n d_TR_hexDigit_6 rfl ?_
      refine w_bipush (v := nI 57) d_TR_hexDigit_7 (by decide) ?_
      refine w_icmp_gt (tgt := 17) d_TR_hexDigit_9 rfl (fun c9 => ?_) (fun c9 => ?_)
      · exact J17 (fun z => absurd z.2 (i32_nle.mpr c9))
      · refine w_iload_n d_TR_hexDigit_12 rfl ?_
        refine w_bipush (v := nI 48) d_TR_hexDigit_13 (by decide) ?_
        refine w_isub d_TR_hexDigit_15 ?_
        rw [← hEN]
        refine w_iret d_TR_hexDigit_16 rfl ?_
        rw [hxI, if_pos ⟨i32_nlt.mp c3, i32_nlt.mp c9⟩]
        exact ⟨rfl, rfl⟩
  intro n1
  refine w_iload_n d_TR_hexDigit_17 rfl ?_
  refine w_bipush (v := nI 97) d_TR_hexDigit_18 (by decide) ?_
  suffices J37 : ¬ ((97 : Int32) ≤ x ∧ x ≤ 102) → WP X M_TR_hexDigit (wR 0 0 0) 0 EN 0 0 37 [some (.int (x))] [] h by
    refine w_icmp_lt (tgt := 37) d_TR_hexDigit_20 rfl (fun c20 => ?_) (fun c20 => ?_)
    · exact J37 (fun z => absurd z.1 (i32_nle.mpr c20))
    · refine w_iload_n d_TR_hexDigit_23 rfl ?_
      refine w_bipush (v := nI 102) d_TR_hexDigit_24 (by decide) ?_
      refine w_icmp_gt (tgt := 37) d_TR_hexDigit_26 rfl (fun c26 => ?_) (fun c26 => ?_)
      · exact J37 (fun z => absurd z.2 (i32_nle.mpr c26))
      · refine w_iload_n d_TR_hexDigit_29 rfl ?_
        refine w_bipush (v := nI 97) d_TR_hexDigit_30 (by decide) ?_
        refine w_isub d_TR_hexDigit_32 ?_
        refine w_bipush (v := nI 10) d_TR_hexDigit_33 (by decide) ?_
        refine w_iadd d_TR_hexDigit_35 ?_
        rw [← hEN]
        refine w_iret d_TR_hexDigit_36 rfl ?_
        rw [hxI, if_neg n1, if_pos ⟨i32_nlt.mp c20, i32_nlt.mp c26⟩]
        exact ⟨rfl, rfl⟩
  intro n2
  refine w_iload_n d_TR_hexDigit_37 rfl ?_
  refine w_bipush (v := nI 65) d_TR_hexDigit_38 (by decide) ?_
  suffices J59 : ¬ ((65 : Int32) ≤ x ∧ x ≤ 70) → WP X M_TR_hexDigit (wR 0 0 0) 0 EN 0 0 59 [some (.int (x))] [] h by
    refine w_icmp_lt (tgt := 59) d_TR_hexDigit_40 rfl (fun c40 => ?_) (fun c40 => ?_)
    · exact J59 (fun z => absurd z.1 (i32_nle.mpr c40))
    · refine w_iload_n d_TR_hexDigit_43 rfl ?_
      refine w_bipush (v := nI 70) d_TR_hexDigit_44 (by decide) ?_
      refine w_icmp_gt (tgt := 59) d_TR_hexDigit_46 rfl (fun c46 => ?_) (fun c46 => ?_)
      · exact J59 (fun z => absurd z.2 (i32_nle.mpr c46))
      · refine w_iload_n d_TR_hexDigit_49 rfl ?_
        refine w_bipush (v := nI 65) d_TR_hexDigit_50 (by decide) ?_
        refine w_isub d_TR_hexDigit_52 ?_
        refine w_bipush (v := nI 10) d_TR_hexDigit_53 (by decide) ?_
        refine w_iadd d_TR_hexDigit_55 ?_
        refine w_goto (tgt := 60) d_TR_hexDigit_56 rfl ?_
        rw [← hEN]
        refine w_iret d_TR_hexDigit_60 rfl ?_
        first
          | (rw [hxI, if_neg n1, if_neg n2, if_neg n3]; exact ⟨rfl, rfl⟩)
          | (rw [hxI, if_neg n1, if_neg n2, if_pos ⟨i32_nlt.mp c40, i32_nlt.mp c46⟩]; exact ⟨rfl, rfl⟩)
  intro n3
  refine w_iconst (v := -1) d_TR_hexDigit_59 (by decide) ?_
  rw [← hEN]
  refine w_iret d_TR_hexDigit_60 rfl ?_
  first
    | (rw [hxI, if_neg n1, if_neg n2, if_neg n3]; exact ⟨rfl, rfl⟩)
    | (rw [hxI, if_neg n1, if_neg n2, if_pos ⟨i32_nlt.mp c40, i32_nlt.mp c46⟩]; exact ⟨rfl, rfl⟩)
set_option maxHeartbeats 4000000 in
set_option maxRecDepth 100000 in
theorem m_TR_isLetter {h : wH} {x : Int32} : PM X M_TR_isLetter 0 0 0 [.int (x)] h (fun r h' => r = some (.int (bI (ltI x))) ∧ h' = h) := by
  refine PM.at (pl := [some (.int (x))]) rfl rfl (by simp [wle, wen]) ?_
  generalize hEN : wEm X 0 0 _ = EN
  refine w_iload_n d_TR_isLetter_0 rfl ?_
  refine w_bipush (v := nI 97) d_TR_isLetter_1 (by decide) ?_
  suffices J24 : ltI x = true → WP X M_TR_isLetter (wR 0 0 0) 0 EN 0 0 24 [some (.int (x))] [] h by
    suffices J12 : ¬ ((97 : Int32) ≤ x ∧ x ≤ 122) → WP X M_TR_isLetter (wR 0 0 0) 0 EN 0 0 12 [some (.int (x))] [] h by
      refine w_icmp_lt (tgt := 12) d_TR_isLetter_3 rfl (fun c3 => ?_) (fun c3 => ?_)
      · exact J12 (fun z => absurd z.1 (i32_nle.mpr c3))
      · refine w_iload_n d_TR_isLetter_6 rfl ?_
        refine w_bipush (v := nI 122) d_TR_isLetter_7 (by decide) ?_
        refine w_icmp_le (tgt := 24) d_TR_isLetter_9 rfl (fun c9 => ?_) (fun c9 => ?_)
        · exact J24 (decide_eq_true (Or.inl ⟨i32_nlt.mp c3, c9⟩))
        · exact J12 (fun z => absurd z.2 c9)
    intro n1
    refine w_iload_n d_TR_isLetter_12 rfl ?_
    refine w_bipush (v := nI 65) d_TR_isLetter_13 (by decide) ?_
    refine w_icmp_lt (tgt := 28) d_TR_isLetter_15 rfl (fun c15 => ?_) (fun c15 => ?_)
    · refine w_iconst (v := nI 0) d_TR_isLetter_28 (by decide) ?_
      rw [← hEN]
      refine w_zret d_TR_isLetter_29 rfl (by first | exact Or.inl rfl | exact Or.inr rfl) ?_
      first
        | (rw [y1]; exact ⟨rfl, rfl⟩)
        | (rw [show ltI x = false from decide_eq_false (fun z => z.elim n1 (fun z => absurd z.1 (i32_nle.mpr c15)))]; exact ⟨rfl, rfl⟩)
        | (rw [show ltI x = false from decide_eq_false (fun z => z.elim n1 (fun z => absurd z.2 (i32_nle.mpr c21)))]; exact ⟨rfl, rfl⟩)
    · refine w_iload_n d_TR_isLetter_18 rfl ?_
      refine w_bipush (v := nI 90) d_TR_isLetter_19 (by decide) ?_
      refine w_icmp_gt (tgt := 28) d_TR_isLetter_21 rfl (fun c21 => ?_) (fun c21 => ?_)
      · refine w_iconst (v := nI 0) d_TR_isLetter_28 (by decide) ?_
        rw [← hEN]
        refine w_zret d_TR_isLetter_29 rfl (by first | exact Or.inl rfl | exact Or.inr rfl) ?_
        first
          | (rw [y1]; exact ⟨rfl, rfl⟩)
          | (rw [show ltI x = false from decide_eq_false (fun z => z.elim n1 (fun z => absurd z.1 (i32_nle.mpr c15)))]; exact ⟨rfl, rfl⟩)
          | (rw [show ltI x = false from decide_eq_false (fun z => z.elim n1 (fun z => absurd z.2 (i32_nle.mpr c21)))]; exact ⟨rfl, rfl⟩)
      · exact J24 (decide_eq_true (Or.inr ⟨i32_nlt.mp c15, i32_nlt.mp c21⟩))
  intro y1
  refine w_iconst (v := nI 1) d_TR_isLetter_24 (by decide) ?_
  refine w_goto (tgt := 29) d_TR_isLetter_25 rfl ?_
  rw [← hEN]
  refine w_zret d_TR_isLetter_29 rfl (by first | exact Or.inl rfl | exact Or.inr rfl) ?_
  first
    | (rw [y1]; exact ⟨rfl, rfl⟩)
    | (rw [show ltI x = false from decide_eq_false (fun z => z.elim n1 (fun z => absurd z.1 (i32_nle.mpr c15)))]; exact ⟨rfl, rfl⟩)
    | (rw [show ltI x = false from decide_eq_false (fun z => z.elim n1 (fun z => absurd z.2 (i32_nle.mpr c21)))]; exact ⟨rfl, rfl⟩)
set_option maxHeartbeats 4000000 in
set_option maxRecDepth 100000 in
theorem m_TR_kindAt {h : wH} {p pos : Nat} {t l : List Nat} {tk : List (Nat × Int32)} {i : Nat} (hm : hTR h p t tk l pos) (hi : i < 2 ^ 31) : PM X M_TR_kindAt 0 0 0 [.ref p, .int (nI i)] h (fun r h' => r = some (.int (nI (kd tk i))) ∧ h' = h) := by
  have hhm := hm; obtain ⟨fk, fv, hp, htx, hkk, hvv, hlt, hl60, hfk⟩ := hm; have htx0 := htx; obtain ⟨tf, tp, ta, tl, thf⟩ := htx; have hlt0 := hlt; obtain ⟨lf, lp, la, ll, lhf⟩ := hlt
  refine PM.at (pl := [some (.ref p), some (.int (nI i))]) rfl rfl (by simp [wle, wen]) ?_
  generalize hEN : wEm X 0 0 _ = EN
  refine w_iload_n d_TR_kindAt_0 rfl ?_
  refine w_if_lt (tgt := 21) d_TR_kindAt_1 rfl (fun z => absurd z (nI_pos hi)) (fun _ => ?_)
  refine w_iload_n d_TR_kindAt_4 rfl ?_
  refine w_aload_n d_TR_kindAt_5 rfl rfl ?_
  refine w_get d_TR_kindAt_6 f_TR_28 hp rfl ?_
  refine w_icmp_ge (tgt := 21) d_TR_kindAt_9 rfl (fun c9 => ?_) (fun c9 => ?_)
  · have c9 := (nI_leI (a := tk.length) (b := i) (by omega) hi).mp c9
    refine w_iconst (v := nI 0) d_TR_kindAt_21 (by decide) ?_
    rw [← hEN]
    refine w_iret d_TR_kindAt_22 rfl ?_
    unfold kd
    first
      | (rw [hq]; exact ⟨rfl, rfl⟩)
      | (rw [List.getElem?_eq_none c9]; exact ⟨rfl, rfl⟩)
  · have c9 : i < tk.length := Nat.not_le.mp (fun z => c9 ((nI_leI (a := tk.length) (b := i) (by omega) hi).mpr z))
    obtain ⟨q, hq⟩ : ∃ q, tk[i]? = some q := ⟨_, List.getElem?_eq_getElem c9⟩
    refine w_aload_n d_TR_kindAt_12 rfl rfl ?_
    refine w_get d_TR_kindAt_13 f_TR_18 hp rfl ?_
    refine w_iload_n d_TR_kindAt_16 rfl ?_
    refine w_iald d_TR_kindAt_17 hkk (vp_in_nI (by omega) (by omega)) ?_
    refine w_topi (y := nI q.1) (by rw [nI_clamp hi]; exact (hfk i q hq).1) ?_
    refine w_goto (tgt := 22) d_TR_kindAt_18 rfl ?_
    rw [← hEN]
    refine w_iret d_TR_kindAt_22 rfl ?_
    unfold kd
    first
      | (rw [hq]; exact ⟨rfl, rfl⟩)
      | (rw [List.getElem?_eq_none c9]; exact ⟨rfl, rfl⟩)
set_option maxHeartbeats 4000000 in
set_option maxRecDepth 100000 in
theorem m_TR_valueAt {h : wH} {p pos : Nat} {t l : List Nat} {tk : List (Nat × Int32)} {i : Nat} (hm : hTR h p t tk l pos) (hi : i < 2 ^ 31) : PM X M_TR_valueAt 0 0 0 [.ref p, .int (nI i)] h (fun r h' => r = some (.int (vl tk i)) ∧ h' = h) := by
  have hhm := hm; obtain ⟨fk, fv, hp, htx, hkk, hvv, hlt, hl60, hfk⟩ := hm; have htx0 := htx; obtain ⟨tf, tp, ta, tl, thf⟩ := htx; have hlt0 := hlt; obtain ⟨lf, lp, la, ll, lhf⟩ := hlt
  refine PM.at (pl := [some (.ref p), some (.int (nI i))]) rfl rfl (by simp [wle, wen]) ?_
  generalize hEN : wEm X 0 0 _ = EN
  refine w_iload_n d_TR_valueAt_0 rfl ?_
  refine w_if_lt (tgt := 21) d_TR_valueAt_1 rfl (fun z => absurd z (nI_pos hi)) (fun _ => ?_)
  refine w_iload_n d_TR_valueAt_4 rfl ?_
  refine w_aload_n d_TR_valueAt_5 rfl rfl ?_
  refine w_get d_TR_valueAt_6 f_TR_28 hp rfl ?_
  refine w_icmp_ge (tgt := 21) d_TR_valueAt_9 rfl (fun c9 => ?_) (fun c9 => ?_)
  · have c9 := (nI_leI (a := tk.length) (b := i) (by omega) hi).mp c9
    refine w_iconst (v := -1) d_TR_valueAt_21 (by decide) ?_
    rw [← hEN]
    refine w_iret d_TR_valueAt_22 rfl ?_
    unfold vl
    first
      | (rw [hq]; exact ⟨rfl, rfl⟩)
      | (rw [List.getElem?_eq_none c9]; exact ⟨rfl, rfl⟩)
  · have c9 : i < tk.length := Nat.not_le.mp (fun z => c9 ((nI_leI (a := tk.length) (b := i) (by omega) hi).mpr z))
    obtain ⟨q, hq⟩ : ∃ q, tk[i]? = some q := ⟨_, List.getElem?_eq_getElem c9⟩
    refine w_aload_n d_TR_valueAt_12 rfl rfl ?_
    refine w_get d_TR_valueAt_13 f_TR_22 hp rfl ?_
    refine w_iload_n d_TR_valueAt_16 rfl ?_
    refine w_iald d_TR_valueAt_17 hvv (vp_in_nI (by omega) (by omega)) ?_
    refine w_topi (y := q.2) (by rw [nI_clamp hi]; exact (hfk i q hq).2) ?_
    refine w_goto (tgt := 22) d_TR_valueAt_18 rfl ?_
    rw [← hEN]
    refine w_iret d_TR_valueAt_22 rfl ?_
    unfold vl
    first
      | (rw [hq]; exact ⟨rfl, rfl⟩)
      | (rw [List.getElem?_eq_none c9]; exact ⟨rfl, rfl⟩)
set_option maxHeartbeats 4000000 in
set_option maxRecDepth 100000 in
theorem m_TR_beginsSet {h : wH} {p pos : Nat} {t l : List Nat} {tk : List (Nat × Int32)} {i : Nat} (hm : hTR h p t tk l pos) (hi : i < 2 ^ 31) (hk : kd tk i < 2 ^ 31) : PM X M_TR_beginsSet 1 0 0 [.ref p, .int (nI i)] h (fun r h' => r = some (.int (bI (decide (kd tk i = 4 ∨ kd tk i = 5 ∨ kd tk i = 2 ∨ kd tk i = 3)))) ∧ h' = h) := by
  have hhm := hm; obtain ⟨fk, fv, hp, htx, hkk, hvv, hlt, hl60, hfk⟩ := hm; have htx0 := htx; obtain ⟨tf, tp, ta, tl, thf⟩ := htx; have hlt0 := hlt; obtain ⟨lf, lp, la, ll, lhf⟩ := hlt
  refine PM.at (pl := [some (.ref p), some (.int (nI i)), none]) rfl rfl (by simp [wle, wen]) ?_
  generalize hEN : wEm X 0 0 _ = EN
  refine w_aload_n d_TR_beginsSet_0 rfl rfl ?_
  refine w_iload_n d_TR_beginsSet_1 rfl ?_
  refine w_callV (as := [.int (nI i)]) (st := []) d_TR_beginsSet_2 yM_TR_kindAt l_TR_32 vM_TR_kindAt hp rfl rfl rfl rfl (m_TR_kindAt hhm hi) (by decide) (by decide) (by decide) (by decide) (Nat.le_of_ble_eq_true rfl) ?_
  rintro _ h9_1 ⟨rfl, e9_1⟩
  rw [e9_1]
  refine w_eq (st' := [.int (nI (kd tk i))]) rfl ?_
  refine w_istore_n d_TR_beginsSet_5 (by decide) ?_
  refine w_pl (pl' := [some (.ref p), some (.int (nI i)), some (.int (nI (kd tk i)))]) rfl ?_
  refine w_iload_n d_TR_beginsSet_6 rfl ?_
  refine w_iconst (v := nI 4) d_TR_beginsSet_7 (by decide) ?_
  suffices J26 : (kd tk i = 4 ∨ kd tk i = 5 ∨ kd tk i = 2 ∨ kd tk i = 3) → WP X M_TR_beginsSet (wR 1 0 0) 0 EN 0 0 26 [some (.ref p), some (.int (nI i)), some (.int (nI (kd tk i)))] [] h by
    refine w_icmp_eq (tgt := 26) d_TR_beginsSet_8 rfl (fun c8 => ?_) (fun c8 => ?_)
    · have c8 : kd tk i = 4 := (nI_eq hk (by decide)).mp c8
      exact J26 (by omega)
    · have c8 : ¬ kd tk i = 4 := fun z => c8 (by rw [z])
      refine w_iload_n d_TR_beginsSet_11 rfl ?_
      refine w_iconst (v := nI 5) d_TR_beginsSet_12 (by decide) ?_
      refine w_icmp_eq (tgt := 26) d_TR_beginsSet_13 rfl (fun c13 => ?_) (fun c13 => ?_)
      · have c13 : kd tk i = 5 := (nI_eq hk (by decide)).mp c13
        exact J26 (by omega)
      · have c13 : ¬ kd tk i = 5 := fun z => c13 (by rw [z])
        refine w_iload_n d_TR_beginsSet_16 rfl ?_
        refine w_iconst (v := nI 2) d_TR_beginsSet_17 (by decide) ?_
        refine w_icmp_eq (tgt := 26) d_TR_beginsSet_18 rfl (fun c18 => ?_) (fun c18 => ?_)
        · have c18 : kd tk i = 2 := (nI_eq hk (by decide)).mp c18
          exact J26 (by omega)
        · have c18 : ¬ kd tk i = 2 := fun z => c18 (by rw [z])
          refine w_iload_n d_TR_beginsSet_21 rfl ?_
          refine w_iconst (v := nI 3) d_TR_beginsSet_22 (by decide) ?_
          refine w_icmp_ne (tgt := 30) d_TR_beginsSet_23 rfl (fun c23 => ?_) (fun c23 => ?_)
          · have c23 : ¬ kd tk i = 3 := fun z => c23 (by rw [z])
            refine w_iconst (v := nI 0) d_TR_beginsSet_30 (by decide) ?_
            rw [← hEN]
            refine w_zret d_TR_beginsSet_31 rfl (by first | exact Or.inl rfl | exact Or.inr rfl) ?_
            first
              | (rw [decide_eq_true y1]; exact ⟨rfl, rfl⟩)
              | (rw [decide_eq_false (by omega)]; exact ⟨rfl, rfl⟩)
          · have c23 : kd tk i = 3 := (nI_eq hk (by decide)).mp c23
            exact J26 (by omega)
  intro y1
  refine w_iconst (v := nI 1) d_TR_beginsSet_26 (by decide) ?_
  refine w_goto (tgt := 31) d_TR_beginsSet_27 rfl ?_
  rw [← hEN]
  refine w_zret d_TR_beginsSet_31 rfl (by first | exact Or.inl rfl | exact Or.inr rfl) ?_
  first
    | (rw [decide_eq_true y1]; exact ⟨rfl, rfl⟩)
    | (rw [decide_eq_false (by omega)]; exact ⟨rfl, rfl⟩)
set_option maxHeartbeats 4000000 in
set_option maxRecDepth 100000 in
theorem m_TR_add {h : wH} {p pos : Nat} {t l : List Nat} {tk : List (Nat × Int32)} {k wd : Nat} {v : Int32} (hm : hTR h p t tk l pos) (hlen : tk.length < 60) : PM X M_TR_add 0 0 0 [.ref p, .int (nI k), .int (v), .int (nI wd)] h (fun r h' => r = some (.int (nI 1)) ∧ hTR h' p t (tk ++ [(k, v)]) l (pos + wd) ∧ wOff h h' p 7) := by
  have hhm := hm; obtain ⟨fk, fv, hp, htx, hkk, hvv, hlt, hl60, hfk⟩ := hm; have htx0 := htx; obtain ⟨tf, tp, ta, tl, thf⟩ := htx; have hlt0 := hlt; obtain ⟨lf, lp, la, ll, lhf⟩ := hlt
  refine PM.at (pl := [some (.ref p), some (.int (nI k)), some (.int (v)), some (.int (nI wd))]) rfl rfl (by simp [wle, wen]) ?_
  generalize hEN : wEm X 0 0 _ = EN
  refine w_aload_n d_TR_add_0 rfl rfl ?_
  refine w_get d_TR_add_1 f_TR_28 hp rfl ?_
  refine w_bipush (v := nI 60) d_TR_add_4 (by decide) ?_
  refine w_icmp_lt (tgt := 11) d_TR_add_6 rfl (fun _ => ?_) (fun z => absurd (nI_lt hlen (by omega)) z)
  refine w_aload_n d_TR_add_11 rfl rfl ?_
  refine w_get d_TR_add_12 f_TR_18 hp rfl ?_
  refine w_aload_n d_TR_add_15 rfl rfl ?_
  refine w_get d_TR_add_16 f_TR_28 hp rfl ?_
  refine w_iload_n d_TR_add_19 rfl ?_
  refine w_iast d_TR_add_20 hkk (vp_in_nI hlen (by omega)) ?_
  refine w_nm (fun h1 e1 => ?_)
  have hp_1 := wS_ne e1 (by omega) hp
  have tp_1 := wS_ne e1 (by omega) tp
  have hkk_1 := wS_eq e1 hkk
  have hvv_1 := wS_ne e1 (by omega) hvv
  have lp_1 := wS_ne e1 (by omega) lp
  refine w_aload_n d_TR_add_21 rfl rfl ?_
  refine w_get d_TR_add_22 f_TR_22 hp_1 rfl ?_
  refine w_aload_n d_TR_add_25 rfl rfl ?_
  refine w_get d_TR_add_26 f_TR_28 hp_1 rfl ?_
  refine w_iload_n d_TR_add_29 rfl ?_
  refine w_iast d_TR_add_30 hvv_1 (vp_in_nI hlen (by omega)) ?_
  refine w_nm (fun h2 e2 => ?_)
  have hp_2 := wS_ne e2 (by omega) hp_1
  have tp_2 := wS_ne e2 (by omega) tp_1
  have hkk_2 := wS_ne e2 (by omega) hkk_1
  have hvv_2 := wS_eq e2 hvv_1
  have lp_2 := wS_ne e2 (by omega) lp_1
  refine w_aload_n d_TR_add_31 rfl rfl ?_
  refine w_dup d_TR_add_32 rfl ?_
  refine w_get d_TR_add_33 f_TR_28 hp_2 rfl ?_
  refine w_iconst (v := nI 1) d_TR_add_36 (by decide) ?_
  refine w_iadd d_TR_add_37 ?_
  refine w_topi (y := nI (tk.length + 1)) (nI_add _ _) ?_
  refine w_put d_TR_add_38 f_TR_28 rfl hp_2 rfl rfl rfl ?_
  refine w_nm (fun h3 e3 => ?_)
  have hp_3 := wS_eq e3 hp_2
  have tp_3 := wS_ne e3 (by omega) tp_2
  have hkk_3 := wS_ne e3 (by omega) hkk_2
  have hvv_3 := wS_ne e3 (by omega) hvv_2
  have lp_3 := wS_ne e3 (by omega) lp_2
  refine w_aload_n d_TR_add_41 rfl rfl ?_
  refine w_dup d_TR_add_42 rfl ?_
  refine w_get d_TR_add_43 f_TR_40 hp_3 rfl ?_
  refine w_iload_n d_TR_add_46 rfl ?_
  refine w_iadd d_TR_add_47 ?_
  refine w_topi (y := nI (pos + wd)) (nI_add _ _) ?_
  refine w_put d_TR_add_48 f_TR_40 rfl hp_3 rfl rfl rfl ?_
  refine w_nm (fun h4 e4 => ?_)
  have hp_4 := wS_eq e4 hp_3
  have tp_4 := wS_ne e4 (by omega) tp_3
  have hkk_4 := wS_ne e4 (by omega) hkk_3
  have hvv_4 := wS_ne e4 (by omega) hvv_3
  have lp_4 := wS_ne e4 (by omega) lp_3
  refine w_iconst (v := nI 1) d_TR_add_51 (by decide) ?_
  rw [← hEN]
  refine w_zret d_TR_add_52 rfl (by first | exact Or.inl rfl | exact Or.inr rfl) ?_
  have hoff : wOff h h4 p 7 := fun k hk => by rw [wS_off e4 (by omega), wS_off e3 (by omega), wS_off e2 (by omega), wS_off e1 (by omega)]
  have ho1 : ∀ j, (j = p + 1 ∨ j = p + 2 ∨ j = p + 5 ∨ j = p + 6) → h4[j]? = h[j]? := fun j hj => by rw [wS_off e4 (by omega), wS_off e3 (by omega), wS_off e2 (by omega), wS_off e1 (by omega)]
  refine ⟨rfl, ⟨_, _, ?_, ⟨tf, by rw [ho1 _ (by omega)]; exact tp, by rw [ho1 _ (by omega)]; exact ta, tl, thf⟩, hkk_4, hvv_4, ⟨lf, by rw [ho1 _ (by omega)]; exact lp, by rw [ho1 _ (by omega)]; exact la, ll, lhf⟩, by rw [List.length_append, List.length_singleton]; omega, ?_⟩, hoff⟩
  · rw [List.length_append, List.length_singleton]; exact hp_4
  · rw [nI_clamp (by omega)]; exact upd_tk hfk
end TR1
