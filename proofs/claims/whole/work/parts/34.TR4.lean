/-! TokenRow.cutText: written by wip/gen/tr4.py -/
theorem lxProp_w {o : Bool} {l : List Nat} {w0 w : Nat} {x : Option (Nat × Int32)} (h : lxProp o l w0 = some (x, w)) : w = w0 := by
  unfold lxProp at h
  split at h
  · cases h
  · cases h
    rfl
theorem lxOpen2_w {t : List Nat} {pos w : Nat} {o : Bool} {q : Nat × List Nat} {x : Option (Nat × Int32)} (h : lxOpen2 t pos o q = some (x, w)) : w = q.1 + 2 - pos := by
  unfold lxOpen2 at h
  split at h
  · exact lxProp_w h
  · cases h
/-- a token is at least one wide -/
theorem lxAt_w {t : List Nat} {pos c w : Nat} {x : Option (Nat × Int32)} (hpos : pos < t.length) (h : lxAt t pos c = some (x, w)) : 1 ≤ w := by
  have go : ∀ (n k : Nat), pos ≤ k → 1 ≤ (nmR t n k []).1 + 2 - pos := fun n k hk => by
    have := nmR_ge t (Nat.le_of_lt hpos) n k [] hk
    omega
  unfold lxAt at h
  split at h
  · cases h; omega
  split at h
  · cases h; omega
  split at h
  · cases h; omega
  split at h
  · unfold lxOpen at h
    split at h
    · cases h; omega
    split at h
    · rw [lxOpen2_w h]; exact go _ _ (by split <;> omega)
    · cases h; omega
  split at h
  · split at h
    · unfold lxName lxName2 at h
      split at h
      · rw [lxProp_w h]
        have := nmR_ge t (Nat.le_of_lt hpos) (t.length - (pos + 3)) (pos + 3) [] (by omega)
        omega
      · cases h
    · unfold lxEsc at h
      split at h
      · cases h
      · split at h
        · cases h; omega
        split at h
        · cases h; omega
        split at h
        · unfold lxFour at h
          split at h
          · cases h; omega
          · cases h
        split at h
        · unfold lxBr lxBr2 at h
          split at h
          · split at h
            · cases h; omega
            · cases h
          · cases h
        split at h
        · cases h
        · cases h; omega
  split at h
  · cases h; omega
  split at h
  · cases h
  split at h
  · cases h; omega
  split at h
  · cases h; omega
  · cases h; omega
/-- all tokens from pos on, behind tk -/
def lxAll (t : List Nat) : Nat → Nat → List (Nat × Int32) → Option (List (Nat × Int32))
  | 0, _, tk => some tk
  | f + 1, pos, tk => match t[pos]? with
    | none => some tk
    | some c => match lxAt t pos c with
      | none => none
      | some (none, w) => lxAll t f (pos + w) tk
      | some (some q, w) => lxAll t f (pos + w) (tk ++ [q])
/-- the tokens of a text -/
def cut (t : List Nat) : Option (List (Nat × Int32)) := if t[0]? = some 32 ∨ t[t.length - 1]? = some 32 then none else lxAll t t.length 0 []
/-- more turns than places change nothing -/
theorem lxAll_more (t : List Nat) : ∀ (n f pos : Nat) (tk : List (Nat × Int32)), t.length - pos ≤ n → t.length - pos ≤ f → t.length - pos ≤ n → lxAll t f pos tk = lxAll t (t.length - pos) pos tk
  | 0, f, pos, tk, h1, h2, _ => by
    have hp : t.length - pos = 0 := by omega
    rw [hp]
    cases f with
    | zero => rfl
    | succ f =>
      unfold lxAll
      rw [List.getElem?_eq_none (by omega)]
  | n + 1, f, pos, tk, h1, h2, _ => by
    by_cases hp : t.length - pos = 0
    · rw [hp]
      cases f with
      | zero => rfl
      | succ f =>
        unfold lxAll
        rw [List.getElem?_eq_none (by omega)]
    · obtain ⟨m, hm⟩ : ∃ m, t.length - pos = m + 1 := ⟨t.length - pos - 1, by omega⟩
      cases f with
      | zero => omega
      | succ f =>
        rw [hm]
        unfold lxAll
        cases hc : t[pos]? with
        | none => rfl
        | some c =>
          dsimp only
          cases hx : lxAt t pos c with
          | none => rfl
          | some q =>
            obtain ⟨q, w⟩ := q
            have hw := lxAt_w (by omega) hx
            cases q with
            | none =>
              dsimp only
              rw [lxAll_more t n f (pos + w) tk (by omega) (by omega) (by omega), lxAll_more t n m (pos + w) tk (by omega) (by omega) (by omega)]
            | some q =>
              dsimp only
              rw [lxAll_more t n f (pos + w) _ (by omega) (by omega) (by omega), lxAll_more t n m (pos + w) _ (by omega) (by omega) (by omega)]
theorem lxAt_b {t : List Nat} {pos c w : Nat} {x : Option (Nat × Int32)} (hpos : pos < t.length) (h60 : t.length ≤ 60) (h : lxAt t pos c = some (x, w)) : w < 2 ^ 10 := by
  have go : ∀ (n k : Nat), (nmR t n k []).1 + 2 - pos < 2 ^ 10 := fun n k => by
    have := nmR_le t n k []
    omega
  unfold lxAt at h
  split at h
  · cases h; decide
  split at h
  · cases h; decide
  split at h
  · cases h; decide
  split at h
  · unfold lxOpen at h
    split at h
    · cases h; decide
    split at h
    · rw [lxOpen2_w h]; exact go _ _
    · cases h; decide
  split at h
  · split at h
    · unfold lxName lxName2 at h
      split at h
      · rw [lxProp_w h]
        have := go (t.length - (pos + 3)) (pos + 3)
        omega
      · cases h
    · unfold lxEsc at h
      split at h
      · cases h
      · split at h
        · cases h; decide
        split at h
        · cases h; decide
        split at h
        · unfold lxFour at h
          split at h
          · cases h; decide
          · cases h
        split at h
        · unfold lxBr lxBr2 at h
          have := hxR_le t (pos + 3) 6 0
          split at h
          · split at h
            · cases h; omega
            · cases h
          · cases h
        split at h
        · cases h
        · cases h; decide
  split at h
  · cases h; decide
  split at h
  · cases h
  split at h
  · cases h; decide
  split at h
  · cases h; decide
  · cases h; decide
section TR4
variable {X : wX}
theorem m_CR_codeL {h : wH} {p : Nat} {t : List Nat} (hc : hCR h p t) : PM X M_CR_codeAt 0 0 0 [.ref p, .int (nI t.length - nI 1)] h (fun r h' => r = some (.int (cA t (t.length - 1))) ∧ h' = h) := by
  have h60 : t.length ≤ 60 := hc.choose_spec.2.2.1
  rcases Nat.eq_zero_or_pos t.length with z | z
  · have q := m_CR_codeAt (X := X) (k := nI t.length - nI 1) hc
    rw [if_pos (by rw [z]; decide)] at q
    have e : cA t (t.length - 1) = -1 := by unfold cA; rw [List.getElem?_eq_none (by omega)]
    rw [e]
    exact q
  · rw [pk_sub z]
    exact m_CR_codeN hc (by omega)
set_option maxHeartbeats 4000000 in
set_option maxRecDepth 100000 in
theorem m_TR_cutText {h : wH} {p q pos0 : Nat} {t t0 l0 : List Nat} {tk0 : List (Nat × Int32)} (hm : hTR h p t0 tk0 l0 pos0) (hq : hCR h q t) (hd : p + 7 ≤ q ∨ q + 2 ≤ p) (ht : ∀ x ∈ t, x < 1114112) : PM X M_TR_cutText 9 0 0 [.ref p, .ref q] h (fun r h' => r = some (.int (bI (cut t).isSome)) ∧ wOff h h' p 7 ∧ (∃ (t9 : List Nat) (tk9 : List (Nat × Int32)) (l9 : List Nat) (p9 : Nat), hTR h' p t9 tk9 l9 p9) ∧ ∀ tk, cut t = some tk → ∃ (l9 : List Nat) (p9 : Nat), hTR h' p t tk l9 p9) := by
  have hhm := hm; obtain ⟨fk, fv, hp, htx, hkk, hvv, hlt, hl60, hfk⟩ := hm; have htx0 := htx; obtain ⟨tf, tp, ta, tl, thf⟩ := htx; have hlt0 := hlt; obtain ⟨lf, lp, la, ll, lhf⟩ := hlt
  have ht31 : ∀ x ∈ t, x < 2 ^ 31 := fun x hx => by have := ht x hx; omega
  have ht60 : t.length ≤ 60 := hq.choose_spec.2.2.1
  refine PM.at (pl := [some (.ref p), some (.ref q), none]) rfl rfl (by simp [wle, wen]) ?_
  generalize hEN : wEm X 0 0 _ = EN
  have L : ∀ (n : Nat) (s pos : Nat) (tk : List (Nat × Int32)) (l : List Nat) (h3 : wH), (t.length - pos < n) → (s ≤ pos) → (hTR h3 p t tk l pos) → (wOff h h3 p 7) → (tk.length ≤ pos) → (pos < 2 ^ 20) → (cut t = lxAll t (t.length - pos) pos tk) → WP X M_TR_cutText (wR 9 0 0) 0 EN 0 0 56 [some (.ref p), some (.ref q), some (.int (nI s))] [] h3 := by
    intro n
    induction n with
    | zero => intro s pos tk l h3 k1 k2 k3 k4 k5 k6 k7; omega
    | succ n ih =>
      intro s pos tk l h3 k1 k2 k3 k4 k5 k6 k7
      have khm := k3; obtain ⟨kfk, kfv, khp, khtx, khkk, khvv, khlt, khl60, khfk⟩ := k3; have khtx0 := khtx; obtain ⟨ktf, ktp, kta, ktl, kthf⟩ := khtx; have khlt0 := khlt; obtain ⟨klf, klp, kla, kll, klhf⟩ := khlt
      refine w_iload_n d_TR_cutText_56 rfl ?_
      refine w_bipush (v := nI 60) d_TR_cutText_57 (by decide) ?_
      refine w_icmp_ge (tgt := 91) d_TR_cutText_59 rfl (fun c59 => ?_) (fun c59 => ?_)
      · have c59 := (nI_leI (a := 60) (b := s) (by decide) (by omega)).mp c59
        refine w_iconst (v := nI 1) d_TR_cutText_91 (by decide) ?_
        rw [← hEN]
        refine w_zret d_TR_cutText_92 rfl (by first | exact Or.inl rfl | exact Or.inr rfl) ?_
        rw [show t.length - pos = 0 by omega] at k7
        unfold lxAll at k7
        refine ⟨?_, k4, ⟨_, _, _, _, khm⟩, fun tk9 z => ?_⟩
        · rw [k7]; rfl
        · rw [k7] at z; cases z; exact ⟨_, _, khm⟩
      · have c59 : s < 60 := Nat.not_le.mp (fun z => c59 ((nI_leI (a := 60) (b := s) (by decide) (by omega)).mpr z))
        refine w_aload_n d_TR_cutText_62 rfl rfl ?_
        refine w_get d_TR_cutText_63 f_TR_40 khp rfl ?_
        refine w_aload_n d_TR_cutText_66 rfl rfl ?_
        refine w_get d_TR_cutText_67 f_TR_12 khp rfl ?_
        refine w_get d_TR_cutText_70 f_TR_46 ktp rfl ?_
        refine w_icmp_ge (tgt := 91) d_TR_cutText_73 rfl (fun c73 => ?_) (fun c73 => ?_)
        · have c73 := (nI_leI (a := t.length) (b := pos) (by omega) (by omega)).mp c73
          refine w_iconst (v := nI 1) d_TR_cutText_91 (by decide) ?_
          rw [← hEN]
          refine w_zret d_TR_cutText_92 rfl (by first | exact Or.inl rfl | exact Or.inr rfl) ?_
          rw [show t.length - pos = 0 by omega] at k7
          unfold lxAll at k7
          refine ⟨?_, k4, ⟨_, _, _, _, khm⟩, fun tk9 z => ?_⟩
          · rw [k7]; rfl
          · rw [k7] at z; cases z; exact ⟨_, _, khm⟩
        · have c73 : pos < t.length := Nat.not_le.mp (fun z => c73 ((nI_leI (a := t.length) (b := pos) (by omega) (by omega)).mpr z))
          obtain ⟨c, hc⟩ : ∃ c, t[pos]? = some c := ⟨_, List.getElem?_eq_getElem c73⟩
          rw [show t.length - pos = (t.length - pos - 1) + 1 by omega] at k7
          unfold lxAll at k7
          rw [hc] at k7
          dsimp only at k7
          refine w_aload_n d_TR_cutText_76 rfl rfl ?_
          refine w_callV (as := []) (st := []) d_TR_cutText_77 yM_TR_takeToken l_TR_47 vM_TR_takeToken khp rfl rfl rfl rfl (m_TR_takeToken khm c73 (by omega) ht hc) (by decide) (by decide) (by decide) (by decide) (Nat.le_of_ble_eq_true rfl) ?_
          rintro rv h5 hlx
          have hlb := hlx.b01
          rw [hlb]
          refine w_eq (st' := [.int (bI (lxAt t pos c).isSome)]) rfl ?_
          refine w_if_ne (tgt := 85) d_TR_cutText_80 rfl (fun c80 => ?_) (fun c80 => ?_)
          · have c80 := bI_t c80
            refine w_iinc (v := nI (s + 1)) d_TR_cutText_85 rfl (nI_1 _) (by decide) ?_
            refine w_pl (pl' := [some (.ref p), some (.ref q), some (.int (nI (s + 1)))]) rfl ?_
            refine w_goto (tgt := 56) d_TR_cutText_88 rfl ?_
            obtain ⟨o5, hlx⟩ := hlx
            cases hx : lxAt t pos c with
            | none => rw [hx] at c80; cases c80
            | some q =>
              obtain ⟨q, w⟩ := q
              have hw := lxAt_w c73 hx
              rw [hx] at hlx k7
              have hwl : w < 2 ^ 10 := lxAt_b c73 ht60 hx
              cases q with
              | none =>
                obtain ⟨-, l9, hlx⟩ := hlx
                dsimp only at k7
                rw [lxAll_more t (t.length - pos - 1) _ _ _ (by omega) (by omega) (by omega)] at k7
                exact ih (s + 1) (pos + w) tk l9 h5 (by omega) (by omega) hlx (k4.tr o5) (by omega) (by omega) k7
              | some q =>
                obtain ⟨-, l9, hlx⟩ := hlx
                dsimp only at k7
                rw [lxAll_more t (t.length - pos - 1) _ _ _ (by omega) (by omega) (by omega)] at k7
                exact ih (s + 1) (pos + w) (tk ++ [q]) l9 h5 (by omega) (by omega) hlx (k4.tr o5) (by rw [List.length_append, List.length_singleton]; omega) (by omega) k7
          · have c80 := bI_f c80
            refine w_iconst (v := nI 0) d_TR_cutText_83 (by decide) ?_
            rw [← hEN]
            refine w_zret d_TR_cutText_84 rfl (by first | exact Or.inl rfl | exact Or.inr rfl) ?_
            have hx : lxAt t pos c = none := by cases hz : lxAt t pos c with | none => rfl | some q => rw [hz] at c80; cases c80
            obtain ⟨o5, hlx⟩ := hlx
            rw [hx] at hlx k7
            obtain ⟨-, l9, hlx⟩ := hlx
            refine ⟨?_, k4.tr o5, ⟨_, _, _, _, hlx⟩, fun tk9 z => ?_⟩
            · rw [k7]; rfl
            · rw [k7] at z; cases z
  refine w_aload_n d_TR_cutText_0 rfl rfl ?_
  refine w_get d_TR_cutText_1 f_TR_12 hp rfl ?_
  refine w_aload_n d_TR_cutText_4 rfl rfl ?_
  refine w_callV (as := [.ref q]) (st := []) d_TR_cutText_5 yM_CR_become l_TR_36 vM_CR_become tp rfl rfl rfl rfl (m_CR_become htx0 hq (by omega)) (by decide) (by decide) (by decide) (by decide) (Nat.le_of_ble_eq_true rfl) ?_
  rintro _ h1_ ⟨rfl, hr1, ho1⟩
  refine w_eq (st' := []) rfl ?_
  have kp := (ho1 p (by omega)).trans hp
  refine w_aload_n d_TR_cutText_8 rfl rfl ?_
  refine w_iconst (v := nI 0) d_TR_cutText_9 (by decide) ?_
  refine w_put d_TR_cutText_10 f_TR_28 rfl kp rfl rfl rfl ?_
  refine w_nm (fun h1 e1 => ?_)
  have kp_1 := wS_eq e1 kp
  refine w_aload_n d_TR_cutText_13 rfl rfl ?_
  refine w_iconst (v := nI 0) d_TR_cutText_14 (by decide) ?_
  refine w_put d_TR_cutText_15 f_TR_40 rfl kp_1 rfl rfl rfl ?_
  refine w_nm (fun h2 e2 => ?_)
  have kp_2 := wS_eq e2 kp_1
  have jhm : hTR h2 p t [] l0 0 := by
    have hoA : ∀ j, (j = p + 3 ∨ j = p + 4 ∨ j = p + 5 ∨ j = p + 6) → h2[j]? = h[j]? := fun j hj => by rw [wS_off e2 (by omega), wS_off e1 (by omega), ho1 j (by omega)]
    obtain ⟨rf, r1, r2, r3, r4⟩ := hr1
    exact ⟨fk, fv, kp_2, ⟨rf, by rw [wS_off e2 (by omega), wS_off e1 (by omega)]; exact r1, by rw [wS_off e2 (by omega), wS_off e1 (by omega)]; exact r2, r3, r4⟩, by rw [hoA _ (by omega)]; exact hkk, by rw [hoA _ (by omega)]; exact hvv, ⟨lf, by rw [hoA _ (by omega)]; exact lp, by rw [hoA _ (by omega)]; exact la, ll, lhf⟩, by decide, fun i q hq => by simp at hq⟩
  have jhm := jhm; obtain ⟨jfk, jfv, jhp, jhtx, jhkk, jhvv, jhlt, jhl60, jhfk⟩ := jhm; have jhtx0 := jhtx; obtain ⟨jtf, jtp, jta, jtl, jthf⟩ := jhtx; have jhlt0 := jhlt; obtain ⟨jlf, jlp, jla, jll, jlhf⟩ := jhlt
  refine w_aload_n d_TR_cutText_18 rfl rfl ?_
  refine w_get d_TR_cutText_19 f_TR_12 jhp rfl ?_
  refine w_iconst (v := nI 0) d_TR_cutText_22 (by decide) ?_
  refine w_callV (as := [.int (nI 0)]) (st := []) d_TR_cutText_23 yM_CR_codeAt l_TR_43 vM_CR_codeAt jtp rfl rfl rfl rfl (m_CR_codeN jhtx0 (by decide)) (by decide) (by decide) (by decide) (by decide) (Nat.le_of_ble_eq_true rfl) ?_
  rintro _ h9_3 ⟨rfl, e9_3⟩
  rw [e9_3]
  refine w_eq (st' := [.int (cA t 0)]) rfl ?_
  refine w_bipush (v := nI 32) d_TR_cutText_26 (by decide) ?_
  suffices J52 : (t[0]? = some 32 ∨ t[t.length - 1]? = some 32) → WP X M_TR_cutText (wR 9 0 0) 0 EN 0 0 52 [some (.ref p), some (.ref q), none] [] h2 by
    refine w_icmp_eq (tgt := 52) d_TR_cutText_28 rfl (fun c28 => ?_) (fun c28 => ?_)
    · have c28 : t[0]? = some 32 := (cA_eq ht31 (by decide)).mp c28
      exact J52 (Or.inl c28)
    · have c28 : ¬ t[0]? = some 32 := fun z => c28 ((cA_eq ht31 (by decide)).mpr z)
      refine w_aload_n d_TR_cutText_31 rfl rfl ?_
      refine w_get d_TR_cutText_32 f_TR_12 jhp rfl ?_
      refine w_aload_n d_TR_cutText_35 rfl rfl ?_
      refine w_get d_TR_cutText_36 f_TR_12 jhp rfl ?_
      refine w_get d_TR_cutText_39 f_TR_46 jtp rfl ?_
      refine w_iconst (v := nI 1) d_TR_cutText_42 (by decide) ?_
      refine w_isub d_TR_cutText_43 ?_
      refine w_callV (as := [.int ((nI t.length - nI 1))]) (st := []) d_TR_cutText_44 yM_CR_codeAt l_TR_43 vM_CR_codeAt jtp rfl rfl rfl rfl (m_CR_codeL jhtx0) (by decide) (by decide) (by decide) (by decide) (Nat.le_of_ble_eq_true rfl) ?_
      rintro _ h9_4 ⟨rfl, e9_4⟩
      rw [e9_4]
      refine w_eq (st' := [.int (cA t (t.length - 1))]) rfl ?_
      refine w_bipush (v := nI 32) d_TR_cutText_47 (by decide) ?_
      refine w_icmp_ne (tgt := 54) d_TR_cutText_49 rfl (fun c49 => ?_) (fun c49 => ?_)
      · have c49 : ¬ t[t.length - 1]? = some 32 := fun z => c49 ((cA_eq ht31 (by decide)).mpr z)
        refine w_iconst (v := nI 0) d_TR_cutText_54 (by decide) ?_
        refine w_istore_n d_TR_cutText_55 (by decide) ?_
        refine w_pl (pl' := [some (.ref p), some (.ref q), some (.int (nI 0))]) rfl ?_
        have hcut : cut t = lxAll t (t.length - 0) 0 [] := if_neg (fun z => z.elim c28 c49)
        exact L (t.length + 1) 0 0 [] l0 h2 (by omega) (Nat.le_refl _) jhm (fun k hk => by rw [wS_off e2 (by omega), wS_off e1 (by omega), ho1 k (by omega)] : wOff h h2 p 7) (Nat.zero_le _) (by decide) hcut
      · have c49 : t[t.length - 1]? = some 32 := (cA_eq ht31 (by decide)).mp c49
        exact J52 (Or.inr c49)
  intro hsp
  refine w_iconst (v := nI 0) d_TR_cutText_52 (by decide) ?_
  rw [← hEN]
  refine w_zret d_TR_cutText_53 rfl (by first | exact Or.inl rfl | exact Or.inr rfl) ?_
  have hcut : cut t = none := if_pos hsp
  refine ⟨?_, (fun k hk => by rw [wS_off e2 (by omega), wS_off e1 (by omega), ho1 k (by omega)] : wOff h h2 p 7), ⟨_, _, _, _, jhm⟩, fun tk9 z => ?_⟩
  · rw [hcut]; rfl
  · rw [hcut] at z; cases z
end TR4
