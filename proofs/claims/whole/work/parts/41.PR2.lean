/-! PatternReader, second part: written by wip/gen/pr2.py -/
def tkOk (tk : List (Nat × Int32)) : Prop := ∀ q ∈ tk, 1 ≤ q.1 ∧ q.1 ≤ 10 ∧ (q.1 = 1 → ∃ v, v < 1114112 ∧ q.2 = nI v) ∧ (q.1 = 2 ∨ q.1 = 3 → ∃ n, n < 10 ∧ q.2 = nI n)
theorem kd_le {tk : List (Nat × Int32)} (h : tkOk tk) (i : Nat) : kd tk i ≤ 10 := by
  unfold kd
  cases hq : tk[i]? with
  | none => exact Nat.zero_le _
  | some q => exact (h q (List.mem_of_getElem? hq)).2.1
theorem kd_ch {tk : List (Nat × Int32)} (h : tkOk tk) {i : Nat} (hk : kd tk i = 1) : ∃ v, v < 1114112 ∧ vl tk i = nI v := by
  unfold kd at hk
  unfold vl
  cases hq : tk[i]? with
  | none => rw [hq] at hk; cases hk
  | some q => rw [hq] at hk; exact (h q (List.mem_of_getElem? hq)).2.2.1 hk
theorem kd_pr {tk : List (Nat × Int32)} (h : tkOk tk) {i : Nat} (hk : kd tk i = 2 ∨ kd tk i = 3) : ∃ n, n < 10 ∧ vl tk i = nI n := by
  unfold kd at hk
  unfold vl
  cases hq : tk[i]? with
  | none => rw [hq] at hk; rcases hk with hk | hk <;> cases hk
  | some q => rw [hq] at hk; exact (h q (List.mem_of_getElem? hq)).2.2.2 hk
theorem nV_nI {v : Nat} (h : v < 1114112) : nV (nI v) = v := nI_clamp (by omega)
def bOk (B : Nat → Br) (d : Nat) : Prop := d ≤ 5 ∧ ∀ k, k < d → iOk (B k).1 ∧ (B k).2.2.2.2 ≤ 3 ∧ (B k).1.1.length ≤ 120 ∧ (B k).2.2.1 ≤ 60
theorem iOk_ran {a b : Nat} (h : a ≤ b) (hb : b < 1114112) : iOk (rRan a b) := by
  refine ⟨⟨?_, fun x hx => ?_⟩, List.Pairwise.nil, fun y hy => (by cases hy), Nat.zero_le _⟩
  · show List.Pairwise (· < ·) [a, b + 1]
    rw [List.pairwise_cons]
    exact ⟨fun y hy => by rw [List.mem_singleton] at hy; omega, List.pairwise_singleton _ _⟩
  · have hx : x = a ∨ x = b + 1 := by
      have := List.mem_cons.mp hx
      rw [List.mem_singleton] at this
      exact this
    omega
theorem tabL_ok : ∀ n, n < 10 → eAsc (tabL.getD n []) ∧ (∀ x ∈ tabL.getD n [], x ≤ 1114112) ∧ (tabL.getD n []).length ≤ 18 := by
  unfold eAsc
  decide
theorem eCmb_sub {how : Nat} {L R : List Nat} {x : Nat} (h : x ∈ eCmb how L R) : x ∈ L ∨ x ∈ R := by
  have go : ∀ n, x ∈ eCh (fun c => eDec how (eMem L c) (eMem R c)) n → eDec how (eMem L x) (eMem R x) ≠ ePrev (fun c => eDec how (eMem L c) (eMem R c)) x := by
    intro n
    induction n with
    | zero => intro h; cases h
    | succ n ih =>
      intro h
      unfold eCh at h
      split at h
      · exact ih h
      · rcases List.mem_append.mp h with h | h
        · exact ih h
        · rw [List.mem_singleton] at h
          subst h
          assumption
  have h1 := go _ h
  refine Decidable.byContradiction fun hn => h1 ?_
  have hm : ∀ E : List Nat, ¬ x ∈ E → eCnt E x = match x with | 0 => 0 | y + 1 => eCnt E y := by
    intro E hE
    cases x with
    | zero => exact eCnt_low (fun e he => Nat.pos_of_ne_zero (fun z => hE (z ▸ he)))
    | succ y =>
      dsimp only
      unfold eCnt
      congr 1
      apply List.filter_congr
      intro e he
      have : e ≠ y + 1 := fun z => hE (z ▸ he)
      exact decide_eq_decide.mpr ⟨fun z => by omega, fun z => by omega⟩
  have hL := hm L (fun z => hn (Or.inl z))
  have hR := hm R (fun z => hn (Or.inr z))
  unfold eMem
  rw [hL, hR]
  cases x with
  | zero => exact eDec_ff how
  | succ y => rfl
theorem len_sub : ∀ (E L R : List Nat), eAsc E → (∀ x ∈ E, x ∈ L ∨ x ∈ R) → E.length ≤ L.length + R.length
  | [], L, R, _, _ => Nat.zero_le _
  | a :: E, L, R, hA, hs => by
    obtain ⟨h1, h2⟩ := eAsc_cons.mp hA
    rcases hs a (List.mem_cons_self ..) with h | h
    · have := len_sub E (L.erase a) R h2 (fun x hx => by
        have := h1 x hx
        rcases hs x (List.mem_cons_of_mem _ hx) with z | z
        · exact Or.inl ((List.mem_erase_of_ne (by omega)).mpr z)
        · exact Or.inr z)
      rw [List.length_erase_of_mem h] at this
      have := List.length_pos_of_mem h
      rw [List.length_cons]
      omega
    · have := len_sub E L (R.erase a) h2 (fun x hx => by
        have := h1 x hx
        rcases hs x (List.mem_cons_of_mem _ hx) with z | z
        · exact Or.inl z
        · exact Or.inr ((List.mem_erase_of_ne (by omega)).mpr z))
      rw [List.length_erase_of_mem h] at this
      have := List.length_pos_of_mem h
      rw [List.length_cons]
      omega
theorem eCmb_len (how : Nat) (L R : List Nat) : (eCmb how L R).length ≤ L.length + R.length := len_sub _ _ _ (eCmb_ok how L R).1 (fun _ hx => eCmb_sub hx)
theorem iOk_tab {n : Nat} (h : n < 10) : iOk (rTab (nI n), []) ∧ (rTab (nI n)).length ≤ 18 := by
  unfold rTab
  rw [nI_clamp (by omega)]
  have := tabL_ok n h
  exact ⟨⟨⟨this.1, this.2.1⟩, List.Pairwise.nil, fun y hy => (by cases hy), Nat.zero_le _⟩, this.2.2⟩
theorem iOk_cmb {E : List Nat} : iOk (eCmb 3 E [0, 1114112], []) := ⟨eCmb_ok _ _ _, List.Pairwise.nil, fun y hy => (by cases hy), Nat.zero_le _⟩
section PR2
variable {X : wX}
theorem m_PR_joinA {h : wH} {tk : List (Nat × Int32)} {B : Nat → Br} {d nx o s v : Nat} {b : Nat → Nat} (hq : hPR h tk B d nx o s v b) {q : Nat} {I : List Nat × List Nat} {z : Bool} (hb : bOk B d) (hm : hMS h q I.1 I.2) (hqp : P1 q) (hqs : q ≠ s) (hI : iOk I) (hl : I.1.length ≤ 200) : PM X M_PR_join 3 0 0 [.ref 13, .ref q, .int (bI z)] h (rQ (rJoin B d nx I z) h tk) := by
  cases d with
  | zero => exact m_PR_join0 hq hm hqp
  | succ k =>
    have hk := hb.2 k (by omega)
    exact m_PR_joinS hq (by have := hb.1; omega) hm hqp hqs hI hk.1 hk.2.1 (by omega)
theorem m_NS_edgesOf {h : wH} {n : Nat} (hn : n < 10) : PM X M_NS_edgesOf 0 0 0 [.int (nI n)] h (fun r h' => r = some (.ref (1000 + n)) ∧ h' = h) := by
  rcases (by omega : n = 0 ∨ n = 1 ∨ n = 2 ∨ n = 3 ∨ n = 4 ∨ n = 5 ∨ n = 6 ∨ n = 7 ∨ n = 8 ∨ n = 9) with rfl | rfl | rfl | rfl | rfl | rfl | rfl | rfl | rfl | rfl
  · exact m_NS_edgesOf_0
  · exact m_NS_edgesOf_1
  · exact m_NS_edgesOf_2
  · exact m_NS_edgesOf_3
  · exact m_NS_edgesOf_4
  · exact m_NS_edgesOf_5
  · exact m_NS_edgesOf_6
  · exact m_NS_edgesOf_7
  · exact m_NS_edgesOf_8
  · exact m_NS_edgesOf_9
set_option maxHeartbeats 4000000 in
set_option maxRecDepth 100000 in
theorem m_PR_sign {h : wH} {tk : List (Nat × Int32)} {B : Nat → Br} {nx o s v k : Nat} {b : Nat → Nat} (hq : hPR h tk B (k + 1) nx o s v b) {hw : Nat} (hk : k < 5) (hnx : nx < 2 ^ 20) (hkd : tkOk tk) : PM X M_PR_readSign 2 0 0 [.ref 13, .int (nI hw)] h (rQ (rSign tk B (k + 1) nx hw) h tk) := by
  have hq0 := hq; obtain ⟨hp, ⟨t, l, pos, htr⟩, ⟨f, har, hfr⟩, hbr, ⟨E1, S1, hop⟩, ⟨E2, S2, hsp⟩, po, ps, pb, pos1, pbo, pbb⟩ := hq
  have trp := htr.choose_spec.choose_spec.1; have hl60 : tk.length ≤ 60 := htr.choose_spec.choose_spec.2.2.2.2.2.1
  obtain ⟨kp, kms⟩ := hbr k hk
  refine PM.at (pl := [some (.ref 13), some (.int (nI hw)), none]) rfl rfl (by simp [wle, wen]) ?_
  generalize hEN : wEm X 0 0 _ = EN
  refine w_aload_n d_PR_readSign_0 rfl rfl ?_
  refine w_callV (as := []) (st := []) d_PR_readSign_1 yM_PR_innermost l_PR_86 vM_PR_innermost hp rfl rfl rfl rfl (m_PR_inner hq0 hk) (by decide) (by decide) (by decide) (by decide) (Nat.le_of_ble_eq_true rfl) ?_
  rintro _ h9_1 ⟨rfl, e9_1⟩
  rw [e9_1]
  refine w_eq (st' := [.ref (28 + 4 * k)]) rfl ?_
  refine w_astore_n d_PR_readSign_4 (by decide) rfl ?_
  refine w_pl (pl' := [some (.ref 13), some (.int (nI hw)), some (.ref (28 + 4 * k))]) rfl ?_
  refine w_aload_n d_PR_readSign_5 rfl rfl ?_
  refine w_get d_PR_readSign_6 f_PR_134 kp rfl ?_
  refine w_if_eq (tgt := 28) d_PR_readSign_9 rfl (fun c9 => ?_) (fun c9 => ?_)
  · have c9 := bI_f c9
    refine w_iconst (v := nI 0) d_PR_readSign_28 (by decide) ?_
    rw [← hEN]
    refine w_zret d_PR_readSign_29 rfl (by first | exact Or.inl rfl | exact Or.inr rfl) ?_
    have hrs : rSign tk B (k + 1) nx hw = none := if_neg (fun z => by first | exact c25 z.2 | (rw [c9] at z; exact absurd z.1 (by decide)))
    rw [hrs]
    exact ⟨wOff.rf, rfl, ⟨_, _, _, _, _, _, _, _, hq0⟩, fun B' d' nx' V hV => by cases hV⟩
  · have c9 := bI_t c9
    refine w_aload_n d_PR_readSign_12 rfl rfl ?_
    refine w_get d_PR_readSign_13 f_PR_12 hp rfl ?_
    refine w_aload_n d_PR_readSign_16 rfl rfl ?_
    refine w_get d_PR_readSign_17 f_PR_42 hp rfl ?_
    refine w_iconst (v := nI 1) d_PR_readSign_20 (by decide) ?_
    refine w_iadd d_PR_readSign_21 ?_
    refine w_topi (y := nI (nx + 1)) (nI_add _ _) ?_
    refine w_callV (as := [.int (nI (nx + 1))]) (st := []) d_PR_readSign_22 yM_TR_beginsSet l_PR_56 vM_TR_beginsSet trp rfl rfl rfl rfl (m_TR_beginsSet htr (by omega) (by have := kd_le hkd (nx + 1); omega)) (by decide) (by decide) (by decide) (by decide) (Nat.le_of_ble_eq_true rfl) ?_
    rintro _ h9_2 ⟨rfl, e9_2⟩
    rw [e9_2]
    refine w_eq (st' := [.int (bI (decide (kd tk (nx + 1) = 4 ∨ kd tk (nx + 1) = 5 ∨ kd tk (nx + 1) = 2 ∨ kd tk (nx + 1) = 3)))]) rfl ?_
    refine w_if_ne (tgt := 30) d_PR_readSign_25 rfl (fun c25 => ?_) (fun c25 => ?_)
    · have c25 := of_decide_eq_true (bI_t c25)
      refine w_aload_n d_PR_readSign_30 rfl rfl ?_
      refine w_iload_n d_PR_readSign_31 rfl ?_
      refine w_put d_PR_readSign_32 f_PR_137 rfl kp rfl rfl rfl ?_
      refine w_nm (fun h3 e3 => ?_)
      have hp_3 := wS_ne e3 (by omega) hp
      have trp_3 := wS_ne e3 (by omega) trp
      have kp_3 := wS_eq e3 kp
      refine w_aload_n d_PR_readSign_35 rfl rfl ?_
      refine w_dup d_PR_readSign_36 rfl ?_
      refine w_get d_PR_readSign_37 f_PR_42 hp_3 rfl ?_
      refine w_iconst (v := nI 1) d_PR_readSign_40 (by decide) ?_
      refine w_iadd d_PR_readSign_41 ?_
      refine w_topi (y := nI (nx + 1)) (nI_add _ _) ?_
      refine w_put d_PR_readSign_42 f_PR_42 rfl hp_3 rfl rfl rfl ?_
      refine w_nm (fun h4 e4 => ?_)
      have hp_4 := wS_eq e4 hp_3
      have trp_4 := wS_ne e4 (by omega) trp_3
      have kp_4 := wS_ne e4 (by omega) kp_3
      refine w_iconst (v := nI 1) d_PR_readSign_45 (by decide) ?_
      rw [← hEN]
      refine w_zret d_PR_readSign_46 rfl (by first | exact Or.inl rfl | exact Or.inr rfl) ?_
      have hrs : rSign tk B (k + 1) nx hw = _ := if_pos ⟨c9, c25⟩
      rw [hrs]
      have hpr := hq0.fl hk hp_4 kp_4 (fun j hj hj2 => by rw [wS_off e4 (by omega), wS_off e3 (by omega)])
      refine ⟨fun j hj => by rw [wS_off e4 (by omega), wS_off e3 (by omega)], rfl, ⟨_, _, _, _, _, _, _, _, hpr⟩, fun B' d' nx' V hV => ?_⟩
      cases hV
      exact ⟨_, _, _, _, hpr, fun z9 => by omega⟩
    · have c25 := of_decide_eq_false (bI_f c25)
      refine w_iconst (v := nI 0) d_PR_readSign_28 (by decide) ?_
      rw [← hEN]
      refine w_zret d_PR_readSign_29 rfl (by first | exact Or.inl rfl | exact Or.inr rfl) ?_
      have hrs : rSign tk B (k + 1) nx hw = none := if_neg (fun z => by first | exact c25 z.2 | (rw [c9] at z; exact absurd z.1 (by decide)))
      rw [hrs]
      exact ⟨wOff.rf, rfl, ⟨_, _, _, _, _, _, _, _, hq0⟩, fun B' d' nx' V hV => by cases hV⟩
set_option maxHeartbeats 4000000 in
set_option maxRecDepth 100000 in
theorem m_PR_hyph {h : wH} {tk : List (Nat × Int32)} {B : Nat → Br} {nx o s v k : Nat} {b : Nat → Nat} (hq : hPR h tk B (k + 1) nx o s v b) (hb : bOk B (k + 1)) (hnx : nx < 2 ^ 20) (hkd : tkOk tk) : PM X M_PR_readHyphen 4 0 0 [.ref 13] h (rQ (rHyp tk B (k + 1) nx) h tk) := by
  have hq0 := hq; obtain ⟨hp, ⟨t, l, pos, htr⟩, ⟨f, har, hfr⟩, hbr, ⟨E1, S1, hop⟩, ⟨E2, S2, hsp⟩, po, ps, pb, pos1, pbo, pbb⟩ := hq
  have trp := htr.choose_spec.choose_spec.1; have hl60 : tk.length ≤ 60 := htr.choose_spec.choose_spec.2.2.2.2.2.1
  have hk : k < 5 := by have := hb.1; omega
  obtain ⟨kp, kms⟩ := hbr k hk
  have hbk := hb.2 k (by omega)
  refine PM.at (pl := [some (.ref 13)]) rfl rfl (by simp [wle, wen]) ?_
  generalize hEN : wEm X 0 0 _ = EN
  refine w_aload_n d_PR_readHyphen_0 rfl rfl ?_
  refine w_callV (as := []) (st := []) d_PR_readHyphen_1 yM_PR_innermost l_PR_86 vM_PR_innermost hp rfl rfl rfl rfl (m_PR_inner hq0 hk) (by decide) (by decide) (by decide) (by decide) (Nat.le_of_ble_eq_true rfl) ?_
  rintro _ h9_1 ⟨rfl, e9_1⟩
  rw [e9_1]
  refine w_eq (st' := [.ref (28 + 4 * k)]) rfl ?_
  refine w_get d_PR_readHyphen_4 f_PR_131 kp rfl ?_
  suffices J28 : ((B k).2.2.1 = 0 ∨ kd tk (nx + 1) = 6) → WP X M_PR_readHyphen (wR 4 0 0) 0 EN 0 0 28 [some (.ref 13)] [] h by
    refine w_if_eq (tgt := 28) d_PR_readHyphen_7 rfl (fun c7 => ?_) (fun c7 => ?_)
    · have c7 : (B k).2.2.1 = 0 := (nI_eq (a := (B k).2.2.1) (b := 0) (by omega) (by decide)).mp c7
      exact J28 (Or.inl c7)
    · have c7 : ¬ (B k).2.2.1 = 0 := fun z => c7 (by rw [z]; rfl)
      refine w_aload_n d_PR_readHyphen_10 rfl rfl ?_
      refine w_get d_PR_readHyphen_11 f_PR_12 hp rfl ?_
      refine w_aload_n d_PR_readHyphen_14 rfl rfl ?_
      refine w_get d_PR_readHyphen_15 f_PR_42 hp rfl ?_
      refine w_iconst (v := nI 1) d_PR_readHyphen_18 (by decide) ?_
      refine w_iadd d_PR_readHyphen_19 ?_
      refine w_topi (y := nI (nx + 1)) (nI_add _ _) ?_
      refine w_callV (as := [.int (nI (nx + 1))]) (st := []) d_PR_readHyphen_20 yM_TR_kindAt l_PR_52 vM_TR_kindAt trp rfl rfl rfl rfl (m_TR_kindAt htr (by omega)) (by decide) (by decide) (by decide) (by decide) (Nat.le_of_ble_eq_true rfl) ?_
      rintro _ h9_2 ⟨rfl, e9_2⟩
      rw [e9_2]
      refine w_eq (st' := [.int (nI (kd tk (nx + 1)))]) rfl ?_
      refine w_bipush (v := nI 6) d_PR_readHyphen_23 (by decide) ?_
      refine w_icmp_ne (tgt := 47) d_PR_readHyphen_25 rfl (fun c25 => ?_) (fun c25 => ?_)
      · have c25 : ¬ kd tk (nx + 1) = 6 := fun z => c25 (by rw [z])
        refine w_aload_n d_PR_readHyphen_47 rfl rfl ?_
        refine w_iconst (v := nI 2) d_PR_readHyphen_48 (by decide) ?_
        refine w_callV (as := [.int (nI 2)]) (st := []) d_PR_readHyphen_49 yM_PR_readSign l_PR_79 vM_PR_readSign hp rfl rfl rfl rfl (m_PR_sign hq0 (hw := 2) hk hnx hkd) (by decide) (by decide) (by decide) (by decide) (Nat.le_of_ble_eq_true rfl) ?_
        rintro _ h9 ⟨ho9, rfl, hr9⟩
        refine w_eq (st' := [.int (bI (rSign tk B (k + 1) nx 2).isSome)]) rfl ?_
        rw [← hEN]
        refine w_zret d_PR_readHyphen_52 rfl (bI_01 _) ?_
        have hrc : rHyp tk B (k + 1) nx = rSign tk B (k + 1) nx 2 := if_neg (fun z => z.elim c7 c25)
        rw [hrc]
        exact ⟨ho9, rfl, hr9⟩
      · have c25 : kd tk (nx + 1) = 6 := (nI_eq (by have := kd_le hkd (nx + 1); omega) (by decide)).mp c25
        exact J28 (Or.inr c25)
  intro hcc
  have hrc : rHyp tk B (k + 1) nx = rJoin B (k + 1) (nx + 1) (rRan 45 45) false := if_pos hcc
  rw [hrc] at hEN
  refine w_aload_n d_PR_readHyphen_28 rfl rfl ?_
  refine w_bipush (v := nI 45) d_PR_readHyphen_29 (by decide) ?_
  refine w_bipush (v := nI 45) d_PR_readHyphen_31 (by decide) ?_
  refine w_iconst (v := nI 1) d_PR_readHyphen_33 (by decide) ?_
  refine w_callV (as := [.int (nI 45), .int (nI 45), .int (nI 1)]) (st := []) d_PR_readHyphen_34 yM_PR_takeRange l_PR_119 vM_PR_takeRange hp rfl rfl rfl rfl (m_PR_take hq0 (x := 45) (y := 45) (wd := 1) (Nat.le_refl _) (by decide)) (by decide) (by decide) (by decide) (by decide) (Nat.le_of_ble_eq_true rfl) ?_
  rintro _ h1_ ⟨rfl, hq1, hm1, ho1⟩
  refine w_eq (st' := []) rfl ?_
  have hp1 := hq1.1
  refine w_aload_n d_PR_readHyphen_37 rfl rfl ?_
  refine w_aload_n d_PR_readHyphen_38 rfl rfl ?_
  refine w_get d_PR_readHyphen_39 f_PR_27 hp1 rfl ?_
  refine w_iconst (v := nI 0) d_PR_readHyphen_42 (by decide) ?_
  refine w_callV (as := [.ref o, .int (nI 0)]) (st := []) d_PR_readHyphen_43 yM_PR_join l_PR_102 vM_PR_join hp1 rfl rfl rfl rfl (m_PR_joinA hq1 (I := (rRan 45 45)) (z := false) hb hm1 po pos1 (iOk_ran (Nat.le_refl _) (by decide)) (by decide)) (by decide) (by decide) (by decide) (by decide) (Nat.le_of_ble_eq_true rfl) ?_
  rintro _ h9 ⟨ho9, rfl, hr9⟩
  refine w_eq (st' := [.int (bI (rJoin B (k + 1) (nx + 1) (rRan 45 45) false).isSome)]) rfl ?_
  rw [← hEN]
  refine w_zret d_PR_readHyphen_46 rfl (bI_01 _) ?_
  exact ⟨ho1.tr ho9, rfl, hr9⟩
set_option maxHeartbeats 4000000 in
set_option maxRecDepth 100000 in
theorem m_PR_char {h : wH} {tk : List (Nat × Int32)} {B : Nat → Br} {nx o s v d : Nat} {b : Nat → Nat} (hq : hPR h tk B d nx o s v b) (hb : bOk B d) (hnx : nx < 2 ^ 20) (hkd : tkOk tk) (h1 : kd tk nx = 1) : PM X M_PR_readChar 4 0 0 [.ref 13] h (rQ (rChar tk B d nx) h tk) := by
  have hq0 := hq; obtain ⟨hp, ⟨t, l, pos, htr⟩, ⟨f, har, hfr⟩, hbr, ⟨E1, S1, hop⟩, ⟨E2, S2, hsp⟩, po, ps, pb, pos1, pbo, pbb⟩ := hq
  have trp := htr.choose_spec.choose_spec.1; have hl60 : tk.length ≤ 60 := htr.choose_spec.choose_spec.2.2.2.2.2.1
  have hb5 := hb.1
  obtain ⟨a, ha, hva⟩ := kd_ch hkd h1
  refine PM.at (pl := [some (.ref 13), none, none]) rfl rfl (by simp [wle, wen]) ?_
  generalize hEN : wEm X 0 0 _ = EN
  refine w_aload_n d_PR_readChar_0 rfl rfl ?_
  refine w_get d_PR_readChar_1 f_PR_12 hp rfl ?_
  refine w_aload_n d_PR_readChar_4 rfl rfl ?_
  refine w_get d_PR_readChar_5 f_PR_42 hp rfl ?_
  refine w_callV (as := [.int (nI nx)]) (st := []) d_PR_readChar_8 yM_TR_valueAt l_PR_106 vM_TR_valueAt trp rfl rfl rfl rfl (m_TR_valueAt htr (by omega)) (by decide) (by decide) (by decide) (by decide) (Nat.le_of_ble_eq_true rfl) ?_
  rintro _ h9_1 ⟨rfl, e9_1⟩
  rw [e9_1]
  refine w_eq (st' := [.int (vl tk nx)]) rfl ?_
  refine w_topi (y := nI a) hva ?_
  refine w_istore_n d_PR_readChar_11 (by decide) ?_
  refine w_pl (pl' := [some (.ref 13), some (.int (nI a)), none]) rfl ?_
  refine w_aload_n d_PR_readChar_12 rfl rfl ?_
  refine w_get d_PR_readChar_13 f_PR_12 hp rfl ?_
  refine w_aload_n d_PR_readChar_16 rfl rfl ?_
  refine w_get d_PR_readChar_17 f_PR_42 hp rfl ?_
  refine w_iconst (v := nI 1) d_PR_readChar_20 (by decide) ?_
  refine w_iadd d_PR_readChar_21 ?_
  refine w_topi (y := nI (nx + 1)) (nI_add _ _) ?_
  refine w_callV (as := [.int (nI (nx + 1))]) (st := []) d_PR_readChar_22 yM_TR_kindAt l_PR_52 vM_TR_kindAt trp rfl rfl rfl rfl (m_TR_kindAt htr (by omega)) (by decide) (by decide) (by decide) (by decide) (Nat.le_of_ble_eq_true rfl) ?_
  rintro _ h9_2 ⟨rfl, e9_2⟩
  rw [e9_2]
  refine w_eq (st' := [.int (nI (kd tk (nx + 1)))]) rfl ?_
  refine w_bipush (v := nI 9) d_PR_readChar_25 (by decide) ?_
  suffices J48 : (¬ kd tk (nx + 1) = 9 ∨ kd tk (nx + 2) = 6) → WP X M_PR_readChar (wR 4 0 0) 0 EN 0 0 48 [some (.ref 13), some (.int (nI a)), none] [] h by
    refine w_icmp_ne (tgt := 48) d_PR_readChar_27 rfl (fun c27 => ?_) (fun c27 => ?_)
    · have c27 : ¬ kd tk (nx + 1) = 9 := fun z => c27 (by rw [z])
      exact J48 (Or.inl c27)
    · have c27 : kd tk (nx + 1) = 9 := (nI_eq (by have := kd_le hkd (nx + 1); omega) (by decide)).mp c27
      refine w_aload_n d_PR_readChar_30 rfl rfl ?_
      refine w_get d_PR_readChar_31 f_PR_12 hp rfl ?_
      refine w_aload_n d_PR_readChar_34 rfl rfl ?_
      refine w_get d_PR_readChar_35 f_PR_42 hp rfl ?_
      refine w_iconst (v := nI 2) d_PR_readChar_38 (by decide) ?_
      refine w_iadd d_PR_readChar_39 ?_
      refine w_topi (y := nI (nx + 2)) (nI_add _ _) ?_
      refine w_callV (as := [.int (nI (nx + 2))]) (st := []) d_PR_readChar_40 yM_TR_kindAt l_PR_52 vM_TR_kindAt trp rfl rfl rfl rfl (m_TR_kindAt htr (by omega)) (by decide) (by decide) (by decide) (by decide) (Nat.le_of_ble_eq_true rfl) ?_
      rintro _ h9_3 ⟨rfl, e9_3⟩
      rw [e9_3]
      refine w_eq (st' := [.int (nI (kd tk (nx + 2)))]) rfl ?_
      refine w_bipush (v := nI 6) d_PR_readChar_43 (by decide) ?_
      refine w_icmp_ne (tgt := 65) d_PR_readChar_45 rfl (fun c45 => ?_) (fun c45 => ?_)
      · have c45 : ¬ kd tk (nx + 2) = 6 := fun z => c45 (by rw [z])
        refine w_aload_n d_PR_readChar_65 rfl rfl ?_
        refine w_get d_PR_readChar_66 f_PR_12 hp rfl ?_
        refine w_aload_n d_PR_readChar_69 rfl rfl ?_
        refine w_get d_PR_readChar_70 f_PR_42 hp rfl ?_
        refine w_iconst (v := nI 2) d_PR_readChar_73 (by decide) ?_
        refine w_iadd d_PR_readChar_74 ?_
        refine w_topi (y := nI (nx + 2)) (nI_add _ _) ?_
        refine w_callV (as := [.int (nI (nx + 2))]) (st := []) d_PR_readChar_75 yM_TR_valueAt l_PR_106 vM_TR_valueAt trp rfl rfl rfl rfl (m_TR_valueAt htr (by omega)) (by decide) (by decide) (by decide) (by decide) (Nat.le_of_ble_eq_true rfl) ?_
        rintro _ h9_4 ⟨rfl, e9_4⟩
        rw [e9_4]
        refine w_eq (st' := [.int (vl tk (nx + 2))]) rfl ?_
        refine w_istore_n d_PR_readChar_78 (by decide) ?_
        refine w_pl (pl' := [some (.ref 13), some (.int (nI a)), some (.int (vl tk (nx + 2)))]) rfl ?_
        refine w_aload_n d_PR_readChar_79 rfl rfl ?_
        refine w_get d_PR_readChar_80 f_PR_12 hp rfl ?_
        refine w_aload_n d_PR_readChar_83 rfl rfl ?_
        refine w_get d_PR_readChar_84 f_PR_42 hp rfl ?_
        refine w_iconst (v := nI 2) d_PR_readChar_87 (by decide) ?_
        refine w_iadd d_PR_readChar_88 ?_
        refine w_topi (y := nI (nx + 2)) (nI_add _ _) ?_
        refine w_callV (as := [.int (nI (nx + 2))]) (st := []) d_PR_readChar_89 yM_TR_kindAt l_PR_52 vM_TR_kindAt trp rfl rfl rfl rfl (m_TR_kindAt htr (by omega)) (by decide) (by decide) (by decide) (by decide) (Nat.le_of_ble_eq_true rfl) ?_
        rintro _ h9_5 ⟨rfl, e9_5⟩
        rw [e9_5]
        refine w_eq (st' := [.int (nI (kd tk (nx + 2)))]) rfl ?_
        refine w_iconst (v := nI 1) d_PR_readChar_92 (by decide) ?_
        refine w_icmp_ne (tgt := 101) d_PR_readChar_93 rfl (fun c93 => ?_) (fun c93 => ?_)
        · have c93 : ¬ kd tk (nx + 2) = 1 := fun z => c93 (by rw [z])
          have hbad : ¬ kd tk (nx + 2) = 1 ∨ nV (vl tk (nx + 2)) < nV (vl tk nx) := Or.inl c93
          refine w_iconst (v := nI 0) d_PR_readChar_101 (by decide) ?_
          rw [← hEN]
          refine w_zret d_PR_readChar_102 rfl (by first | exact Or.inl rfl | exact Or.inr rfl) ?_
          have hrc : rChar tk B d nx = none := by unfold rChar; rw [if_neg (fun z => z.elim (fun y => y c27) c45), if_pos hbad]
          rw [hrc]
          exact ⟨wOff.rf, rfl, ⟨_, _, _, _, _, _, _, _, hq0⟩, fun B' d' nx' V hV => by cases hV⟩
        · have c93 : kd tk (nx + 2) = 1 := (nI_eq (by have := kd_le hkd (nx + 2); omega) (by decide)).mp c93
          obtain ⟨e, he, hve⟩ := kd_ch hkd c93
          rw [hve]
          refine w_iload_n d_PR_readChar_96 rfl ?_
          refine w_iload_n d_PR_readChar_97 rfl ?_
          refine w_icmp_ge (tgt := 103) d_PR_readChar_98 rfl (fun c98 => ?_) (fun c98 => ?_)
          · have c98 : a ≤ e := (nI_leI (a := a) (b := e) (by omega) (by omega)).mp c98
            refine w_aload_n d_PR_readChar_103 rfl rfl ?_
            refine w_iload_n d_PR_readChar_104 rfl ?_
            refine w_iload_n d_PR_readChar_105 rfl ?_
            refine w_iconst (v := nI 3) d_PR_readChar_106 (by decide) ?_
            refine w_callV (as := [.int (nI a), .int (nI e), .int (nI 3)]) (st := []) d_PR_readChar_107 yM_PR_takeRange l_PR_119 vM_PR_takeRange hp rfl rfl rfl rfl (m_PR_take hq0 (wd := 3) c98 he) (by decide) (by decide) (by decide) (by decide) (Nat.le_of_ble_eq_true rfl) ?_
            rintro _ h1_ ⟨rfl, hq1, hm1, ho1⟩
            refine w_eq (st' := []) rfl ?_
            have hp1 := hq1.1
            refine w_aload_n d_PR_readChar_110 rfl rfl ?_
            refine w_aload_n d_PR_readChar_111 rfl rfl ?_
            refine w_get d_PR_readChar_112 f_PR_27 hp1 rfl ?_
            refine w_iconst (v := nI 0) d_PR_readChar_115 (by decide) ?_
            refine w_callV (as := [.ref o, .int (nI 0)]) (st := []) d_PR_readChar_116 yM_PR_join l_PR_102 vM_PR_join hp1 rfl rfl rfl rfl (m_PR_joinA hq1 (I := (rRan a e)) (z := false) hb hm1 po pos1 (iOk_ran c98 he) (by show 2 ≤ 200; decide)) (by decide) (by decide) (by decide) (by decide) (Nat.le_of_ble_eq_true rfl) ?_
            rintro _ h9 ⟨ho9, rfl, hr9⟩
            refine w_eq (st' := [.int (bI (rJoin B d (nx + 3) (rRan a e) false).isSome)]) rfl ?_
            rw [← hEN]
            refine w_zret d_PR_readChar_119 rfl (bI_01 _) ?_
            have hrc : rChar tk B d nx = rJoin B d (nx + 3) (rRan a e) false := by unfold rChar; rw [if_neg (fun z => z.elim (fun y => y c27) c45), if_neg (fun z => z.elim (fun y => y c93) (fun y => by rw [hva, hve, nV_nI ha, nV_nI he] at y; omega)), hva, hve, nV_nI ha, nV_nI he]
            rw [hrc]
            exact ⟨ho1.tr ho9, rfl, hr9⟩
          · have hbad : ¬ kd tk (nx + 2) = 1 ∨ nV (vl tk (nx + 2)) < nV (vl tk nx) := Or.inr (by rw [hva, hve, nV_nI ha, nV_nI he]; exact Nat.not_le.mp (fun z => c98 ((nI_leI (a := a) (b := e) (by omega) (by omega)).mpr z)))
            refine w_iconst (v := nI 0) d_PR_readChar_101 (by decide) ?_
            rw [← hEN]
            refine w_zret d_PR_readChar_102 rfl (by first | exact Or.inl rfl | exact Or.inr rfl) ?_
            have hrc : rChar tk B d nx = none := by unfold rChar; rw [if_neg (fun z => z.elim (fun y => y c27) c45), if_pos hbad]
            rw [hrc]
            exact ⟨wOff.rf, rfl, ⟨_, _, _, _, _, _, _, _, hq0⟩, fun B' d' nx' V hV => by cases hV⟩
      · have c45 : kd tk (nx + 2) = 6 := (nI_eq (by have := kd_le hkd (nx + 2); omega) (by decide)).mp c45
        exact J48 (Or.inr c45)
  intro hcc
  have hrc : rChar tk B d nx = rJoin B d (nx + 1) (rRan (nV (vl tk nx)) (nV (vl tk nx))) false := if_pos hcc
  rw [hva, nV_nI ha] at hrc
  rw [hrc] at hEN
  refine w_aload_n d_PR_readChar_48 rfl rfl ?_
  refine w_iload_n d_PR_readChar_49 rfl ?_
  refine w_iload_n d_PR_readChar_50 rfl ?_
  refine w_iconst (v := nI 1) d_PR_readChar_51 (by decide) ?_
  refine w_callV (as := [.int (nI a), .int (nI a), .int (nI 1)]) (st := []) d_PR_readChar_52 yM_PR_takeRange l_PR_119 vM_PR_takeRange hp rfl rfl rfl rfl (m_PR_take hq0 (wd := 1) (Nat.le_refl _) ha) (by decide) (by decide) (by decide) (by decide) (Nat.le_of_ble_eq_true rfl) ?_
  rintro _ h1_ ⟨rfl, hq1, hm1, ho1⟩
  refine w_eq (st' := []) rfl ?_
  have hp1 := hq1.1
  refine w_aload_n d_PR_readChar_55 rfl rfl ?_
  refine w_aload_n d_PR_readChar_56 rfl rfl ?_
  refine w_get d_PR_readChar_57 f_PR_27 hp1 rfl ?_
  refine w_iconst (v := nI 0) d_PR_readChar_60 (by decide) ?_
  refine w_callV (as := [.ref o, .int (nI 0)]) (st := []) d_PR_readChar_61 yM_PR_join l_PR_102 vM_PR_join hp1 rfl rfl rfl rfl (m_PR_joinA hq1 (I := (rRan a a)) (z := false) hb hm1 po pos1 (iOk_ran (Nat.le_refl _) ha) (by show 2 ≤ 200; decide)) (by decide) (by decide) (by decide) (by decide) (Nat.le_of_ble_eq_true rfl) ?_
  rintro _ h9 ⟨ho9, rfl, hr9⟩
  refine w_eq (st' := [.int (bI (rJoin B d (nx + 1) (rRan a a) false).isSome)]) rfl ?_
  rw [← hEN]
  refine w_zret d_PR_readChar_64 rfl (bI_01 _) ?_
  exact ⟨ho1.tr ho9, rfl, hr9⟩
end PR2
