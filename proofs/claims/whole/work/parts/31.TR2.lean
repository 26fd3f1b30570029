/-! TokenRow, two: written by wip/gen/tr2.py -/
theorem nx_or (a b : Nat) : nI a ||| nI b = nI (a ||| b) := Int32.toBitVec_inj.mp (by
  show BitVec.ofNat 32 a ||| BitVec.ofNat 32 b = BitVec.ofNat 32 (a ||| b)
  apply BitVec.eq_of_toNat_eq
  rw [BitVec.toNat_or, BitVec.toNat_ofNat, BitVec.toNat_ofNat, BitVec.toNat_ofNat, Nat.or_mod_two_pow])
theorem hTR.letters {h h' : wH} {p : Nat} {t l l' : List Nat} {tk : List (Nat × Int32)} {pos : Nat} (a : hTR h p t tk l pos) (b : hCR h' (p + 5) l') (c : wOff h h' (p + 5) 2) : hTR h' p t tk l' pos := by
  obtain ⟨fk, fv, h1, h2, h3, h4, h5, h6⟩ := a
  exact ⟨fk, fv, by rw [c p (by omega)]; exact h1, h2.off c (by omega), by rw [c (p + 3) (by omega)]; exact h3, by rw [c (p + 4) (by omega)]; exact h4, b, h6⟩
/-- how many hex digits there are, of the next r, k being behind -/
def hxR (t : List Nat) (f : Nat) : Nat → Nat → Nat
  | 0, k => k
  | r + 1, k => if hxI (cA t (f + k)) = -1 then k else hxR t f r (k + 1)
/-- the value of d digits -/
def hvI (t : List Nat) (f : Nat) : Nat → Int32
  | 0 => nI 0
  | d + 1 => hvI t f d * nI 16 + hxI (cA t (f + d))
/-- a name from k on: where it ends, and its letters, small -/
def nmR (t : List Nat) : Nat → Nat → List Nat → Nat × List Nat
  | 0, _, l => (t.length, l)
  | r + 1, k, l => match t[k]? with
    | none => (t.length, l)
    | some x => if ltI (nI x) = true then nmR t r (k + 1) (l ++ [x ||| 32]) else if x = 32 ∨ x = 95 ∨ x = 45 then nmR t r (k + 1) l else (k, l)
section TR2
variable {X : wX}
set_option maxHeartbeats 4000000 in
set_option maxRecDepth 100000 in
theorem m_TR_countHex {h : wH} {p pos : Nat} {t l : List Nat} {tk : List (Nat × Int32)} {f m : Nat} (hm : hTR h p t tk l pos) (hf : f < 2 ^ 20) (hm0 : m < 2 ^ 20) : PM X M_TR_countHexDigits 1 0 0 [.ref p, .int (nI f), .int (nI m)] h (fun r h' => r = some (.int (nI (hxR t f m 0))) ∧ h' = h) := by
  have hhm := hm; obtain ⟨fk, fv, hp, htx, hkk, hvv, hlt, hl60, hfk⟩ := hm; have htx0 := htx; obtain ⟨tf, tp, ta, tl, thf⟩ := htx; have hlt0 := hlt; obtain ⟨lf, lp, la, ll, lhf⟩ := hlt
  refine PM.at (pl := [some (.ref p), some (.int (nI f)), some (.int (nI m)), none]) rfl rfl (by simp [wle, wen]) ?_
  generalize hEN : wEm X 0 0 _ = EN
  have L : ∀ (n : Nat) (k : Nat), (m - k < n) → (k ≤ m) → (hxR t f (m - k) k = hxR t f m 0) → WP X M_TR_countHexDigits (wR 1 0 0) 0 EN 0 0 2 [some (.ref p), some (.int (nI f)), some (.int (nI m)), some (.int (nI k))] [] h := by
    intro n
    induction n with
    | zero => intro k k1 k2 k3; omega
    | succ n ih =>
      intro k k1 k2 k3
      refine w_iload_n d_TR_countHexDigits_2 rfl ?_
      refine w_iload_n d_TR_countHexDigits_3 rfl ?_
      refine w_icmp_ge (tgt := 32) d_TR_countHexDigits_4 rfl (fun c4 => ?_) (fun c4 => ?_)
      · have c4 := (nI_leI (a := m) (b := k) (by omega) (by omega)).mp c4
        refine w_iload_n d_TR_countHexDigits_32 rfl ?_
        rw [← hEN]
        refine w_iret d_TR_countHexDigits_33 rfl ?_
        have hk9 : k = m := by omega
        rw [hk9, Nat.sub_self] at k3
        rw [← k3]
        exact ⟨rfl, rfl⟩
      · have c4 : k < m := Nat.not_le.mp (fun z => c4 ((nI_leI (a := m) (b := k) (by omega) (by omega)).mpr z))
        rw [show m - k = (m - (k + 1)) + 1 by omega] at k3
        simp only [hxR] at k3
        refine w_aload_n d_TR_countHexDigits_7 rfl rfl ?_
        refine w_get d_TR_countHexDigits_8 f_TR_12 hp rfl ?_
        refine w_iload_n d_TR_countHexDigits_11 rfl ?_
        refine w_iload_n d_TR_countHexDigits_12 rfl ?_
        refine w_iadd d_TR_countHexDigits_13 ?_
        refine w_topi (y := nI (f + k)) (nI_add _ _) ?_
        refine w_callV (as := [.int (nI (f + k))]) (st := []) d_TR_countHexDigits_14 yM_CR_codeAt l_TR_43 vM_CR_codeAt tp rfl rfl rfl rfl (m_CR_codeN htx0 (by omega)) (by decide) (by decide) (by decide) (by decide) (Nat.le_of_ble_eq_true rfl) ?_
        rintro _ h9_1 ⟨rfl, e9_1⟩
        rw [e9_1]
        refine w_eq (st' := [.int (cA t (f + k))]) rfl ?_
        refine w_callS (as := [.int (cA t (f + k))]) (st := []) d_TR_countHexDigits_17 yM_TR_hexDigit l_TR_103 sM_TR_hexDigit rfl rfl (m_TR_hexDigit) (by decide) (by decide) (by decide) (by decide) (Nat.le_of_ble_eq_true rfl) ?_
        rintro _ h9_2 ⟨rfl, e9_2⟩
        rw [e9_2]
        refine w_eq (st' := [.int (hxI (cA t (f + k)))]) rfl ?_
        refine w_iconst (v := -1) d_TR_countHexDigits_20 (by decide) ?_
        refine w_icmp_ne (tgt := 26) d_TR_countHexDigits_21 rfl (fun c21 => ?_) (fun c21 => ?_)
        · rw [if_neg c21] at k3
          refine w_iinc (v := nI (k + 1)) d_TR_countHexDigits_26 rfl (nI_1 _) (by decide) ?_
          refine w_pl (pl' := [some (.ref p), some (.int (nI f)), some (.int (nI m)), some (.int (nI (k + 1)))]) rfl ?_
          refine w_goto (tgt := 2) d_TR_countHexDigits_29 rfl ?_
          exact ih (k + 1) (by omega) (by omega) k3
        · rw [if_pos c21] at k3
          refine w_iload_n d_TR_countHexDigits_24 rfl ?_
          rw [← hEN]
          refine w_iret d_TR_countHexDigits_25 rfl ?_
          rw [← k3]
          exact ⟨rfl, rfl⟩
  refine w_iconst (v := nI 0) d_TR_countHexDigits_0 (by decide) ?_
  refine w_istore_n d_TR_countHexDigits_1 (by decide) ?_
  refine w_pl (pl' := [some (.ref p), some (.int (nI f)), some (.int (nI m)), some (.int (nI 0))]) rfl ?_
  exact L (m + 1) 0 (by omega) (Nat.zero_le _) rfl
set_option maxHeartbeats 4000000 in
set_option maxRecDepth 100000 in
theorem m_TR_hexValue {h : wH} {p pos : Nat} {t l : List Nat} {tk : List (Nat × Int32)} {f m : Nat} (hm : hTR h p t tk l pos) (hf : f < 2 ^ 20) (hm0 : m < 2 ^ 20) : PM X M_TR_hexValue 1 0 0 [.ref p, .int (nI f), .int (nI m)] h (fun r h' => r = some (.int (hvI t f m)) ∧ h' = h) := by
  have hhm := hm; obtain ⟨fk, fv, hp, htx, hkk, hvv, hlt, hl60, hfk⟩ := hm; have htx0 := htx; obtain ⟨tf, tp, ta, tl, thf⟩ := htx; have hlt0 := hlt; obtain ⟨lf, lp, la, ll, lhf⟩ := hlt
  refine PM.at (pl := [some (.ref p), some (.int (nI f)), some (.int (nI m)), none, none]) rfl rfl (by simp [wle, wen]) ?_
  generalize hEN : wEm X 0 0 _ = EN
  have L : ∀ (n : Nat) (k : Nat), (m - k < n) → (k ≤ m) → WP X M_TR_hexValue (wR 1 0 0) 0 EN 0 0 5 [some (.ref p), some (.int (nI f)), some (.int (nI m)), some (.int (hvI t f k)), some (.int (nI k))] [] h := by
    intro n
    induction n with
    | zero => intro k k1 k2; omega
    | succ n ih =>
      intro k k1 k2
      refine w_iload d_TR_hexValue_5 rfl ?_
      refine w_iload_n d_TR_hexValue_7 rfl ?_
      refine w_icmp_ge (tgt := 37) d_TR_hexValue_8 rfl (fun c8 => ?_) (fun c8 => ?_)
      · have c8 := (nI_leI (a := m) (b := k) (by omega) (by omega)).mp c8
        refine w_iload_n d_TR_hexValue_37 rfl ?_
        rw [← hEN]
        refine w_iret d_TR_hexValue_38 rfl ?_
        rw [show k = m by omega]
        exact ⟨rfl, rfl⟩
      · have c8 : k < m := Nat.not_le.mp (fun z => c8 ((nI_leI (a := m) (b := k) (by omega) (by omega)).mpr z))
        refine w_iload_n d_TR_hexValue_11 rfl ?_
        refine w_bipush (v := nI 16) d_TR_hexValue_12 (by decide) ?_
        refine w_imul d_TR_hexValue_14 ?_
        refine w_aload_n d_TR_hexValue_15 rfl rfl ?_
        refine w_get d_TR_hexValue_16 f_TR_12 hp rfl ?_
        refine w_iload_n d_TR_hexValue_19 rfl ?_
        refine w_iload d_TR_hexValue_20 rfl ?_
        refine w_iadd d_TR_hexValue_22 ?_
        refine w_topi (y := nI (f + k)) (nI_add _ _) ?_
        refine w_callV (as := [.int (nI (f + k))]) (st := [.int ((hvI t f k * nI 16))]) d_TR_hexValue_23 yM_CR_codeAt l_TR_43 vM_CR_codeAt tp rfl rfl rfl rfl (m_CR_codeN htx0 (by omega)) (by decide) (by decide) (by decide) (by decide) (Nat.le_of_ble_eq_true rfl) ?_
        rintro _ h9_1 ⟨rfl, e9_1⟩
        rw [e9_1]
        refine w_eq (st' := [.int (cA t (f + k)), .int ((hvI t f k * nI 16))]) rfl ?_
        refine w_callS (as := [.int (cA t (f + k))]) (st := [.int ((hvI t f k * nI 16))]) d_TR_hexValue_26 yM_TR_hexDigit l_TR_103 sM_TR_hexDigit rfl rfl (m_TR_hexDigit) (by decide) (by decide) (by decide) (by decide) (Nat.le_of_ble_eq_true rfl) ?_
        rintro _ h9_2 ⟨rfl, e9_2⟩
        rw [e9_2]
        refine w_eq (st' := [.int (hxI (cA t (f + k))), .int ((hvI t f k * nI 16))]) rfl ?_
        refine w_iadd d_TR_hexValue_29 ?_
        refine w_topi (y := hvI t f (k + 1)) rfl ?_
        refine w_istore_n d_TR_hexValue_30 (by decide) ?_
        refine w_pl (pl' := [some (.ref p), some (.int (nI f)), some (.int (nI m)), some (.int (hvI t f (k + 1))), some (.int (nI k))]) rfl ?_
        refine w_iinc (v := nI (k + 1)) d_TR_hexValue_31 rfl (nI_1 _) (by decide) ?_
        refine w_pl (pl' := [some (.ref p), some (.int (nI f)), some (.int (nI m)), some (.int (hvI t f (k + 1))), some (.int (nI (k + 1)))]) rfl ?_
        refine w_goto (tgt := 5) d_TR_hexValue_34 rfl ?_
        exact ih (k + 1) (by omega) (by omega)
  refine w_iconst (v := nI 0) d_TR_hexValue_0 (by decide) ?_
  refine w_istore_n d_TR_hexValue_1 (by decide) ?_
  refine w_pl (pl' := [some (.ref p), some (.int (nI f)), some (.int (nI m)), some (.int (nI 0)), none]) rfl ?_
  refine w_iconst (v := nI 0) d_TR_hexValue_2 (by decide) ?_
  refine w_istore d_TR_hexValue_3 (by decide) ?_
  refine w_pl (pl' := [some (.ref p), some (.int (nI f)), some (.int (nI m)), some (.int (nI 0)), some (.int (nI 0))]) rfl ?_
  exact L (m + 1) 0 (by omega) (Nat.zero_le _)
set_option maxHeartbeats 4000000 in
set_option maxRecDepth 100000 in
theorem m_TR_collectName {h : wH} {p pos : Nat} {t l : List Nat} {tk : List (Nat × Int32)} {f : Nat} (hm : hTR h p t tk l pos) (hf : f < 2 ^ 20) (ht31 : ∀ x ∈ t, x < 2 ^ 31) : PM X M_TR_collectName 1 0 0 [.ref p, .int (nI f)] h (fun r h' => r = some (.int (nI (nmR t (t.length - f) f []).1)) ∧ hTR h' p t tk (nmR t (t.length - f) f []).2 pos ∧ wOff h h' p 7) := by
  have hhm := hm; obtain ⟨fk, fv, hp, htx, hkk, hvv, hlt, hl60, hfk⟩ := hm; have htx0 := htx; obtain ⟨tf, tp, ta, tl, thf⟩ := htx; have hlt0 := hlt; obtain ⟨lf, lp, la, ll, lhf⟩ := hlt
  refine PM.at (pl := [some (.ref p), some (.int (nI f)), none, none]) rfl rfl (by simp [wle, wen]) ?_
  generalize hEN : wEm X 0 0 _ = EN
  have L : ∀ (n : Nat) (k : Nat) (l3 : List Nat) (h3 : wH), (t.length - k < n) → (k < 2 ^ 20 + 61) → (hTR h3 p t tk l3 pos) → (wOff h h3 p 7) → (nmR t (t.length - k) k l3 = nmR t (t.length - f) f []) → (l3.length ≤ k) → WP X M_TR_collectName (wR 1 0 0) 0 EN 0 0 9 [some (.ref p), some (.int (nI f)), some (.int (nI k)), none] [] h3 := by
    intro n
    induction n with
    | zero => intro k l3 h3 k1 k2 k3 k4 k5 k6; omega
    | succ n ih =>
      intro k l3 h3 k1 k2 k3 k4 k5 k6
      have xm := k3; obtain ⟨xfk, xfv, xhp, xtx, xhkk, xhvv, xlt, xl60, xhfk⟩ := xm; have xtx0 := xtx; obtain ⟨xtf, xtp, xta, xtl, xthf⟩ := xtx; have xlt0 := xlt; obtain ⟨xlf, xlp, xla, xll, xlhf⟩ := xlt
      refine w_iload_n d_TR_collectName_9 rfl ?_
      refine w_aload_n d_TR_collectName_10 rfl rfl ?_
      refine w_get d_TR_collectName_11 f_TR_12 xhp rfl ?_
      refine w_get d_TR_collectName_14 f_TR_46 xtp rfl ?_
      refine w_icmp_ge (tgt := 77) d_TR_collectName_17 rfl (fun c17 => ?_) (fun c17 => ?_)
      · have c17 := (nI_leI (a := t.length) (b := k) (by omega) (by omega)).mp c17
        refine w_aload_n d_TR_collectName_77 rfl rfl ?_
        refine w_get d_TR_collectName_78 f_TR_12 xhp rfl ?_
        refine w_get d_TR_collectName_81 f_TR_46 xtp rfl ?_
        rw [← hEN]
        refine w_iret d_TR_collectName_84 rfl ?_
        rw [show t.length - k = 0 by omega] at k5
        simp only [nmR] at k5
        rw [← k5]
        exact ⟨rfl, k3, k4⟩
      · have c17 : k < t.length := Nat.not_le.mp (fun z => c17 ((nI_leI (a := t.length) (b := k) (by omega) (by omega)).mpr z))
        obtain ⟨x, hx⟩ : ∃ x, t[k]? = some x := ⟨_, List.getElem?_eq_getElem c17⟩
        have hx31 := ht31 x (List.mem_of_getElem? hx)
        have hcA : cA t k = nI x := by unfold cA; rw [hx]
        rw [show t.length - k = (t.length - (k + 1)) + 1 by omega] at k5
        simp only [nmR, hx] at k5
        refine w_aload_n d_TR_collectName_20 rfl rfl ?_
        refine w_get d_TR_collectName_21 f_TR_12 xhp rfl ?_
        refine w_iload_n d_TR_collectName_24 rfl ?_
        refine w_callV (as := [.int (nI k)]) (st := []) d_TR_collectName_25 yM_CR_codeAt l_TR_43 vM_CR_codeAt xtp rfl rfl rfl rfl (m_CR_codeN xtx0 (by omega)) (by decide) (by decide) (by decide) (by decide) (Nat.le_of_ble_eq_true rfl) ?_
        rintro _ h9_1 ⟨rfl, e9_1⟩
        rw [e9_1]
        refine w_eq (st' := [.int (cA t k)]) rfl ?_
        refine w_topi (y := nI x) hcA ?_
        refine w_istore_n d_TR_collectName_28 (by decide) ?_
        refine w_pl (pl' := [some (.ref p), some (.int (nI f)), some (.int (nI k)), some (.int (nI x))]) rfl ?_
        refine w_iload_n d_TR_collectName_29 rfl ?_
        refine w_callS (as := [.int (nI x)]) (st := []) d_TR_collectName_30 yM_TR_isLetter l_TR_77 sM_TR_isLetter rfl rfl (m_TR_isLetter) (by decide) (by decide) (by decide) (by decide) (Nat.le_of_ble_eq_true rfl) ?_
        rintro _ h9_2 ⟨rfl, e9_2⟩
        rw [e9_2]
        refine w_eq (st' := [.int (bI (ltI (nI x)))]) rfl ?_
        refine w_if_eq (tgt := 51) d_TR_collectName_33 rfl (fun c33 => ?_) (fun c33 => ?_)
        · have c33 := bI_f c33
          rw [if_neg (by rw [c33]; decide)] at k5
          refine w_iload_n d_TR_collectName_51 rfl ?_
          refine w_bipush (v := nI 32) d_TR_collectName_52 (by decide) ?_
          suffices J71 : (x = 32 ∨ x = 95 ∨ x = 45) → WP X M_TR_collectName (wR 1 0 0) 0 EN 0 0 71 [some (.ref p), some (.int (nI f)), some (.int (nI k)), some (.int (nI x))] [] h3 by
            refine w_icmp_eq (tgt := 71) d_TR_collectName_54 rfl (fun c54 => ?_) (fun c54 => ?_)
            · have c54 : x = 32 := (nI_eq hx31 (by decide)).mp c54
              exact J71 (Or.inl c54)
            · have c54 : ¬ x = 32 := fun z => c54 (by rw [z])
              refine w_iload_n d_TR_collectName_57 rfl ?_
              refine w_bipush (v := nI 95) d_TR_collectName_58 (by decide) ?_
              refine w_icmp_eq (tgt := 71) d_TR_collectName_60 rfl (fun c60 => ?_) (fun c60 => ?_)
              · have c60 : x = 95 := (nI_eq hx31 (by decide)).mp c60
                exact J71 (Or.inr (Or.inl c60))
              · have c60 : ¬ x = 95 := fun z => c60 (by rw [z])
                refine w_iload_n d_TR_collectName_63 rfl ?_
                refine w_bipush (v := nI 45) d_TR_collectName_64 (by decide) ?_
                refine w_icmp_eq (tgt := 71) d_TR_collectName_66 rfl (fun c66 => ?_) (fun c66 => ?_)
                · have c66 : x = 45 := (nI_eq hx31 (by decide)).mp c66
                  exact J71 (Or.inr (Or.inr c66))
                · have c66 : ¬ x = 45 := fun z => c66 (by rw [z])
                  refine w_iload_n d_TR_collectName_69 rfl ?_
                  rw [← hEN]
                  refine w_iret d_TR_collectName_70 rfl ?_
                  rw [if_neg (by omega)] at k5
                  rw [← k5]
                  exact ⟨rfl, k3, k4⟩
          intro hsp
          rw [if_pos hsp] at k5
          refine w_iinc (v := nI (k + 1)) d_TR_collectName_71 rfl (nI_1 _) (by decide) ?_
          refine w_pl (pl' := [some (.ref p), some (.int (nI f)), some (.int (nI (k + 1))), some (.int (nI x))]) rfl ?_
          refine w_goto (tgt := 9) d_TR_collectName_74 rfl ?_
          refine w_le (pl' := [some (.ref p), some (.int (nI f)), some (.int (nI (k + 1))), none]) ⟨rfl, rfl, rfl, trivial⟩ ?_
          exact ih (k + 1) l3 h3 (by omega) (by omega) k3 k4 k5 (by omega)
        · have c33 := bI_t c33
          rw [if_pos c33] at k5
          refine w_aload_n d_TR_collectName_36 rfl rfl ?_
          refine w_get d_TR_collectName_37 f_TR_25 xhp rfl ?_
          refine w_iload_n d_TR_collectName_40 rfl ?_
          refine w_bipush (v := nI 32) d_TR_collectName_41 (by decide) ?_
          refine w_ior d_TR_collectName_43 ?_
          refine w_topi (y := nI (x ||| 32)) (nx_or _ _) ?_
          refine w_callV (as := [.int (nI (x ||| 32))]) (st := []) d_TR_collectName_44 yM_CR_append l_TR_94 vM_CR_append xlp rfl rfl rfl rfl (m_CR_append (x := x ||| 32) xlt0) (by decide) (by decide) (by decide) (by decide) (Nat.le_of_ble_eq_true rfl) ?_
          rintro _ h4 ⟨rfl, hr4, ho4⟩
          refine w_eq (st' := [.int (nI (if l3.length < 60 then 1 else 0))]) rfl ?_
          rw [if_pos (by omega)] at hr4
          refine w_pop d_TR_collectName_47 rfl ?_
          refine w_goto (tgt := 71) d_TR_collectName_48 rfl ?_
          refine w_iinc (v := nI (k + 1)) d_TR_collectName_71 rfl (nI_1 _) (by decide) ?_
          refine w_pl (pl' := [some (.ref p), some (.int (nI f)), some (.int (nI (k + 1))), some (.int (nI x))]) rfl ?_
          refine w_goto (tgt := 9) d_TR_collectName_74 rfl ?_
          refine w_le (pl' := [some (.ref p), some (.int (nI f)), some (.int (nI (k + 1))), none]) ⟨rfl, rfl, rfl, trivial⟩ ?_
          exact ih (k + 1) (l3 ++ [x ||| 32]) h4 (by omega) (by omega) (k3.letters hr4 ho4) (k4.tr (ho4.wide (by omega) (by omega))) k5 (by rw [List.length_append, List.length_singleton]; omega)
  refine w_aload_n d_TR_collectName_0 rfl rfl ?_
  refine w_get d_TR_collectName_1 f_TR_25 hp rfl ?_
  refine w_callV (as := []) (st := []) d_TR_collectName_4 yM_CR_clear l_TR_91 vM_CR_clear lp rfl rfl rfl rfl (m_CR_clear hlt0) (by decide) (by decide) (by decide) (by decide) (Nat.le_of_ble_eq_true rfl) ?_
  rintro _ h1 ⟨rfl, hr1, ho1⟩
  refine w_eq (st' := []) rfl ?_
  refine w_iload_n d_TR_collectName_7 rfl ?_
  refine w_istore_n d_TR_collectName_8 (by decide) ?_
  refine w_pl (pl' := [some (.ref p), some (.int (nI f)), some (.int (nI f)), none]) rfl ?_
  exact L (t.length + 1) f [] h1 (by omega) (by omega) (hhm.letters hr1 ho1) (ho1.wide (by omega) (by omega)) rfl (Nat.zero_le _)
end TR2
