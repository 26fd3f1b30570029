/-! CaseRules: written by wip/gen/ca.py -/
/-- the tables of ints that the class holds as statics, in the order of wSF -/
def tabL : List (List Nat) := [[0, 1114112], [0, 128], [48, 58], [48, 58, 65, 71, 97, 103], [65, 91, 192, 215, 216, 223], [97, 123, 223, 247, 248, 256], [65, 91, 97, 123, 170, 171, 181, 182, 186, 187, 192, 215, 216, 247, 248, 256, 880, 1024], [880, 1024], [9, 14, 32, 33, 133, 134, 160, 161], [55296, 57344], [65, 91, 97, 123, 192, 215, 216, 223, 224, 247, 248, 255, 383, 384, 931, 932, 962, 964, 8490, 8492], [65, 91, 192, 215, 216, 223], [75, 107, 8490, 83, 115, 383, 197, 229, 8491, 931, 962, 963]]
def xTab (X : wX) : Prop := ∀ (i : Nat) (T : List Nat), tabL[i]? = some T → (xo X)[i]? = some (T.length, fun j => nI (T.getD j 0))
def isLg (c : Nat) : Bool := decide ((65 ≤ c ∧ c < 91) ∨ (192 ≤ c ∧ c < 215) ∨ (216 ≤ c ∧ c < 223))
/-- one of the triples in which c stands has a member -/
def alk3 (E : List Nat) (c : Nat) : Bool :=
  if c = 75 ∨ c = 107 ∨ c = 8490 then eMem E 75 || eMem E 107 || eMem E 8490
  else if c = 83 ∨ c = 115 ∨ c = 383 then eMem E 83 || eMem E 115 || eMem E 383
  else if c = 197 ∨ c = 229 ∨ c = 8491 then eMem E 197 || eMem E 229 || eMem E 8491
  else if c = 931 ∨ c = 962 ∨ c = 963 then eMem E 931 || eMem E 962 || eMem E 963
  else false
def alk (E : List Nat) (c : Nat) : Bool := (isLg c && eMem E (c + 32)) || (isLg (c - 32) && eMem E (c - 32)) || alk3 E c
theorem bI_t {b : Bool} (h : ¬ bI b = 0) : b = true := by cases b with | true => rfl | false => exact absurd rfl h
theorem bI_f {b : Bool} (h : bI b = 0) : b = false := by cases b with | true => exact absurd h (by decide) | false => rfl
section CA
variable {X : wX}
set_option maxHeartbeats 4000000 in
set_option maxRecDepth 100000 in
theorem m_CA_isLarge (hT : xTab X) {h : wH} {c : Nat} (hc : c < 2 ^ 31) : PM X M_CA_isLarge 0 0 0 [.int (nI c)] h (fun r h' => r = some (.int (bI (isLg c))) ∧ h' = h) := by
  refine PM.at (pl := [some (.int (nI c)), none]) rfl rfl (by simp [wle, wen]) ?_
  generalize hEN : wEm X 0 0 _ = EN
  refine w_iconst (v := nI 0) d_CA_isLarge_0 (by decide) ?_
  refine w_istore_n d_CA_isLarge_1 (by decide) ?_
  refine w_iload_n d_CA_isLarge_2 rfl ?_
  refine w_iconst (v := nI 1) d_CA_isLarge_3 (by decide) ?_
  refine w_iadd d_CA_isLarge_4 ?_
  refine w_topi (y := nI 1) (by decide) ?_
  refine w_gets (i := 11) d_CA_isLarge_5 (by decide +kernel) g_CA_36 ?_
  refine w_tlen (v := nI 6) d_CA_isLarge_8 (hT 11 _ rfl) rfl ?_
  refine w_icmp_ge (tgt := 40) d_CA_isLarge_9 rfl (fun z => absurd z (by decide)) (fun _ => ?_)
  refine w_iload_n d_CA_isLarge_12 rfl ?_
  refine w_gets (i := 11) d_CA_isLarge_13 (by decide +kernel) g_CA_36 ?_
  refine w_iload_n d_CA_isLarge_16 rfl ?_
  refine w_ti d_CA_isLarge_17 (hT 11 _ rfl) (vp_in_nI (by decide) (by decide)) ?_
  refine w_topi (y := nI 65) (by decide) ?_
  suffices J34 : ¬ (65 ≤ c ∧ c < 91) → WP X M_CA_isLarge (wR 0 0 0) 0 EN 0 0 34 [some (.int (nI c)), some (.int (nI 0))] [] h by
    refine w_icmp_lt (tgt := 34) d_CA_isLarge_18 rfl (fun c18 => ?_) (fun c18 => ?_)
    · have c18 := (nI_ltI (a := c) (b := 65) hc (by decide)).mp c18
      exact J34 (by omega)
    · have c18 : ¬ c < 65 := fun z => c18 ((nI_ltI (a := c) (b := 65) hc (by decide)).mpr z)
      refine w_iload_n d_CA_isLarge_21 rfl ?_
      refine w_gets (i := 11) d_CA_isLarge_22 (by decide +kernel) g_CA_36 ?_
      refine w_iload_n d_CA_isLarge_25 rfl ?_
      refine w_iconst (v := nI 1) d_CA_isLarge_26 (by decide) ?_
      refine w_iadd d_CA_isLarge_27 ?_
      refine w_topi (y := nI 1) (by decide) ?_
      refine w_ti d_CA_isLarge_28 (hT 11 _ rfl) (vp_in_nI (by decide) (by decide)) ?_
      refine w_topi (y := nI 91) (by decide) ?_
      refine w_icmp_ge (tgt := 34) d_CA_isLarge_29 rfl (fun c29 => ?_) (fun c29 => ?_)
      · have c29 := (nI_leI (a := 91) (b := c) (by decide) hc).mp c29
        exact J34 (by omega)
      · have c29 : c < 91 := Nat.not_le.mp (fun z => c29 ((nI_leI (a := 91) (b := c) (by decide) hc).mpr z))
        refine w_iconst (v := nI 1) d_CA_isLarge_32 (by decide) ?_
        rw [← hEN]
        refine w_zret d_CA_isLarge_33 rfl (by first | exact Or.inl rfl | exact Or.inr rfl) ?_
        rw [show isLg c = true from decide_eq_true (by omega)]
        exact ⟨rfl, rfl⟩
  intro n65
  refine w_iinc (v := nI 2) d_CA_isLarge_34 rfl (by decide) (by decide) ?_
  refine w_goto (tgt := 2) d_CA_isLarge_37 rfl ?_
  refine w_iload_n d_CA_isLarge_2 rfl ?_
  refine w_iconst (v := nI 1) d_CA_isLarge_3 (by decide) ?_
  refine w_iadd d_CA_isLarge_4 ?_
  refine w_topi (y := nI 3) (by decide) ?_
  refine w_gets (i := 11) d_CA_isLarge_5 (by decide +kernel) g_CA_36 ?_
  refine w_tlen (v := nI 6) d_CA_isLarge_8 (hT 11 _ rfl) rfl ?_
  refine w_icmp_ge (tgt := 40) d_CA_isLarge_9 rfl (fun z => absurd z (by decide)) (fun _ => ?_)
  refine w_iload_n d_CA_isLarge_12 rfl ?_
  refine w_gets (i := 11) d_CA_isLarge_13 (by decide +kernel) g_CA_36 ?_
  refine w_iload_n d_CA_isLarge_16 rfl ?_
  refine w_ti d_CA_isLarge_17 (hT 11 _ rfl) (vp_in_nI (by decide) (by decide)) ?_
  refine w_topi (y := nI 192) (by decide) ?_
  suffices J34 : ¬ (192 ≤ c ∧ c < 215) → WP X M_CA_isLarge (wR 0 0 0) 0 EN 0 0 34 [some (.int (nI c)), some (.int (nI 2))] [] h by
    refine w_icmp_lt (tgt := 34) d_CA_isLarge_18 rfl (fun c18 => ?_) (fun c18 => ?_)
    · have c18 := (nI_ltI (a := c) (b := 192) hc (by decide)).mp c18
      exact J34 (by omega)
    · have c18 : ¬ c < 192 := fun z => c18 ((nI_ltI (a := c) (b := 192) hc (by decide)).mpr z)
      refine w_iload_n d_CA_isLarge_21 rfl ?_
      refine w_gets (i := 11) d_CA_isLarge_22 (by decide +kernel) g_CA_36 ?_
      refine w_iload_n d_CA_isLarge_25 rfl ?_
      refine w_iconst (v := nI 1) d_CA_isLarge_26 (by decide) ?_
      refine w_iadd d_CA_isLarge_27 ?_
      refine w_topi (y := nI 3) (by decide) ?_
      refine w_ti d_CA_isLarge_28 (hT 11 _ rfl) (vp_in_nI (by decide) (by decide)) ?_
      refine w_topi (y := nI 215) (by decide) ?_
      refine w_icmp_ge (tgt := 34) d_CA_isLarge_29 rfl (fun c29 => ?_) (fun c29 => ?_)
      · have c29 := (nI_leI (a := 215) (b := c) (by decide) hc).mp c29
        exact J34 (by omega)
      · have c29 : c < 215 := Nat.not_le.mp (fun z => c29 ((nI_leI (a := 215) (b := c) (by decide) hc).mpr z))
        refine w_iconst (v := nI 1) d_CA_isLarge_32 (by decide) ?_
        rw [← hEN]
        refine w_zret d_CA_isLarge_33 rfl (by first | exact Or.inl rfl | exact Or.inr rfl) ?_
        rw [show isLg c = true from decide_eq_true (by omega)]
        exact ⟨rfl, rfl⟩
  intro n192
  refine w_iinc (v := nI 4) d_CA_isLarge_34 rfl (by decide) (by decide) ?_
  refine w_goto (tgt := 2) d_CA_isLarge_37 rfl ?_
  refine w_iload_n d_CA_isLarge_2 rfl ?_
  refine w_iconst (v := nI 1) d_CA_isLarge_3 (by decide) ?_
  refine w_iadd d_CA_isLarge_4 ?_
  refine w_topi (y := nI 5) (by decide) ?_
  refine w_gets (i := 11) d_CA_isLarge_5 (by decide +kernel) g_CA_36 ?_
  refine w_tlen (v := nI 6) d_CA_isLarge_8 (hT 11 _ rfl) rfl ?_
  refine w_icmp_ge (tgt := 40) d_CA_isLarge_9 rfl (fun z => absurd z (by decide)) (fun _ => ?_)
  refine w_iload_n d_CA_isLarge_12 rfl ?_
  refine w_gets (i := 11) d_CA_isLarge_13 (by decide +kernel) g_CA_36 ?_
  refine w_iload_n d_CA_isLarge_16 rfl ?_
  refine w_ti d_CA_isLarge_17 (hT 11 _ rfl) (vp_in_nI (by decide) (by decide)) ?_
  refine w_topi (y := nI 216) (by decide) ?_
  suffices J34 : ¬ (216 ≤ c ∧ c < 223) → WP X M_CA_isLarge (wR 0 0 0) 0 EN 0 0 34 [some (.int (nI c)), some (.int (nI 4))] [] h by
    refine w_icmp_lt (tgt := 34) d_CA_isLarge_18 rfl (fun c18 => ?_) (fun c18 => ?_)
    · have c18 := (nI_ltI (a := c) (b := 216) hc (by decide)).mp c18
      exact J34 (by omega)
    · have c18 : ¬ c < 216 := fun z => c18 ((nI_ltI (a := c) (b := 216) hc (by decide)).mpr z)
      refine w_iload_n d_CA_isLarge_21 rfl ?_
      refine w_gets (i := 11) d_CA_isLarge_22 (by decide +kernel) g_CA_36 ?_
      refine w_iload_n d_CA_isLarge_25 rfl ?_
      refine w_iconst (v := nI 1) d_CA_isLarge_26 (by decide) ?_
      refine w_iadd d_CA_isLarge_27 ?_
      refine w_topi (y := nI 5) (by decide) ?_
      refine w_ti d_CA_isLarge_28 (hT 11 _ rfl) (vp_in_nI (by decide) (by decide)) ?_
      refine w_topi (y := nI 223) (by decide) ?_
      refine w_icmp_ge (tgt := 34) d_CA_isLarge_29 rfl (fun c29 => ?_) (fun c29 => ?_)
      · have c29 := (nI_leI (a := 223) (b := c) (by decide) hc).mp c29
        exact J34 (by omega)
      · have c29 : c < 223 := Nat.not_le.mp (fun z => c29 ((nI_leI (a := 223) (b := c) (by decide) hc).mpr z))
        refine w_iconst (v := nI 1) d_CA_isLarge_32 (by decide) ?_
        rw [← hEN]
        refine w_zret d_CA_isLarge_33 rfl (by first | exact Or.inl rfl | exact Or.inr rfl) ?_
        rw [show isLg c = true from decide_eq_true (by omega)]
        exact ⟨rfl, rfl⟩
  intro n216
  refine w_iinc (v := nI 6) d_CA_isLarge_34 rfl (by decide) (by decide) ?_
  refine w_goto (tgt := 2) d_CA_isLarge_37 rfl ?_
  refine w_iload_n d_CA_isLarge_2 rfl ?_
  refine w_iconst (v := nI 1) d_CA_isLarge_3 (by decide) ?_
  refine w_iadd d_CA_isLarge_4 ?_
  refine w_topi (y := nI 7) (by decide) ?_
  refine w_gets (i := 11) d_CA_isLarge_5 (by decide +kernel) g_CA_36 ?_
  refine w_tlen (v := nI 6) d_CA_isLarge_8 (hT 11 _ rfl) rfl ?_
  refine w_icmp_ge (tgt := 40) d_CA_isLarge_9 rfl (fun _ => ?_) (fun z => absurd (by decide) z)
  refine w_iconst (v := nI 0) d_CA_isLarge_40 (by decide) ?_
  rw [← hEN]
  refine w_zret d_CA_isLarge_41 rfl (by first | exact Or.inl rfl | exact Or.inr rfl) ?_
  rw [show isLg c = false from decide_eq_false (by omega)]
  exact ⟨rfl, rfl⟩
set_option maxHeartbeats 4000000 in
set_option maxRecDepth 100000 in
theorem m_CA_isAlike (hT : xTab X) {h : wH} {p c : Nat} {E S : List Nat} (hm : hMS h p E S) (hA : eAsc E) (hE31 : ∀ y ∈ E, y < 2 ^ 31) (hc0 : 32 ≤ c) (hc : c < 2 ^ 30) : PM X M_CA_isAlikeToMember 1 0 0 [.ref p, .int (nI c)] h (fun r h' => r = some (.int (bI (alk E c))) ∧ h' = h) := by
  have hhm := hm; obtain ⟨hf0, hk0, hp, ha, hb, hl1, hl2, hhf, hhk⟩ := hm
  refine PM.at (pl := [some (.ref p), some (.int (nI c)), none, none, none, none]) rfl rfl (by simp [wle, wen]) ?_
  generalize hEN : wEm X 0 0 _ = EN
  refine w_iload_n d_CA_isAlikeToMember_0 rfl ?_
  refine w_callS (as := [.int (nI c)]) (st := []) d_CA_isAlikeToMember_1 yM_CA_isLarge l_CA_26 sM_CA_isLarge rfl rfl (m_CA_isLarge hT (by omega)) (by decide) (by decide) (by decide) (by decide) (Nat.le_of_ble_eq_true rfl) ?_
  rintro _ h9_1 ⟨rfl, e9_1⟩
  rw [e9_1]
  refine w_eq (st' := [.int (bI (isLg c))]) rfl ?_
  suffices J18 : (isLg c && eMem E (c + 32)) = false → WP X M_CA_isAlikeToMember (wR 1 0 0) 0 EN 0 0 18 [some (.ref p), some (.int (nI c)), none, none, none, none] [] h by
    refine w_if_eq (tgt := 18) d_CA_isAlikeToMember_4 rfl (fun c4 => ?_) (fun c4 => ?_)
    · have c4 := bI_f c4
      exact J18 (by rw [c4]; rfl)
    · have c4 := bI_t c4
      refine w_aload_n d_CA_isAlikeToMember_7 rfl rfl ?_
      refine w_iload_n d_CA_isAlikeToMember_8 rfl ?_
      refine w_bipush (v := nI 32) d_CA_isAlikeToMember_9 (by decide) ?_
      refine w_iadd d_CA_isAlikeToMember_11 ?_
      refine w_topi (y := nI (c + 32)) (nI_add _ _) ?_
      refine w_callV (as := [.int (nI (c + 32))]) (st := []) d_CA_isAlikeToMember_12 yM_MS_holdsCode l_CA_30 vM_MS_holdsCode hp rfl rfl rfl rfl (m_MS_holdsCode hhm hA hE31 (by omega)) (by decide) (by decide) (by decide) (by decide) (Nat.le_of_ble_eq_true rfl) ?_
      rintro _ h9_2 ⟨rfl, e9_2⟩
      rw [e9_2]
      refine w_eq (st' := [.int (bI (eMem E (c + 32)))]) rfl ?_
      refine w_if_ne (tgt := 39) d_CA_isAlikeToMember_15 rfl (fun c15 => ?_) (fun c15 => ?_)
      · have c15 := bI_t c15
        refine w_iconst (v := nI 1) d_CA_isAlikeToMember_39 (by decide) ?_
        rw [← hEN]
        refine w_zret d_CA_isAlikeToMember_40 rfl (by first | exact Or.inl rfl | exact Or.inr rfl) ?_
        unfold alk
        first | (rw [c4, c15]; exact ⟨rfl, rfl⟩) | (rw [n1, c25, c36]; exact ⟨rfl, rfl⟩)
      · have c15 := bI_f c15
        exact J18 (by rw [c15]; cases isLg c <;> rfl)
  intro n1
  refine w_iload_n d_CA_isAlikeToMember_18 rfl ?_
  refine w_bipush (v := nI 32) d_CA_isAlikeToMember_19 (by decide) ?_
  refine w_isub d_CA_isAlikeToMember_21 ?_
  refine w_topi (y := nI (c - 32)) (pk_sub hc0) ?_
  refine w_callS (as := [.int (nI (c - 32))]) (st := []) d_CA_isAlikeToMember_22 yM_CA_isLarge l_CA_26 sM_CA_isLarge rfl rfl (m_CA_isLarge hT (by omega)) (by decide) (by decide) (by decide) (by decide) (Nat.le_of_ble_eq_true rfl) ?_
  rintro _ h9_3 ⟨rfl, e9_3⟩
  rw [e9_3]
  refine w_eq (st' := [.int (bI (isLg (c - 32)))]) rfl ?_
  suffices J41 : (isLg (c - 32) && eMem E (c - 32)) = false → WP X M_CA_isAlikeToMember (wR 1 0 0) 0 EN 0 0 41 [some (.ref p), some (.int (nI c)), none, none, none, none] [] h by
    refine w_if_eq (tgt := 41) d_CA_isAlikeToMember_25 rfl (fun c25 => ?_) (fun c25 => ?_)
    · have c25 := bI_f c25
      exact J41 (by rw [c25]; rfl)
    · have c25 := bI_t c25
      refine w_aload_n d_CA_isAlikeToMember_28 rfl rfl ?_
      refine w_iload_n d_CA_isAlikeToMember_29 rfl ?_
      refine w_bipush (v := nI 32) d_CA_isAlikeToMember_30 (by decide) ?_
      refine w_isub d_CA_isAlikeToMember_32 ?_
      refine w_topi (y := nI (c - 32)) (pk_sub hc0) ?_
      refine w_callV (as := [.int (nI (c - 32))]) (st := []) d_CA_isAlikeToMember_33 yM_MS_holdsCode l_CA_30 vM_MS_holdsCode hp rfl rfl rfl rfl (m_MS_holdsCode hhm hA hE31 (by omega)) (by decide) (by decide) (by decide) (by decide) (Nat.le_of_ble_eq_true rfl) ?_
      rintro _ h9_4 ⟨rfl, e9_4⟩
      rw [e9_4]
      refine w_eq (st' := [.int (bI (eMem E (c - 32)))]) rfl ?_
      refine w_if_eq (tgt := 41) d_CA_isAlikeToMember_36 rfl (fun c36 => ?_) (fun c36 => ?_)
      · have c36 := bI_f c36
        exact J41 (by rw [c36]; cases isLg (c - 32) <;> rfl)
      · have c36 := bI_t c36
        refine w_iconst (v := nI 1) d_CA_isAlikeToMember_39 (by decide) ?_
        rw [← hEN]
        refine w_zret d_CA_isAlikeToMember_40 rfl (by first | exact Or.inl rfl | exact Or.inr rfl) ?_
        unfold alk
        first | (rw [c4, c15]; exact ⟨rfl, rfl⟩) | (rw [n1, c25, c36]; exact ⟨rfl, rfl⟩)
  intro n2
  refine w_iconst (v := nI 0) d_CA_isAlikeToMember_41 (by decide) ?_
  refine w_istore_n d_CA_isAlikeToMember_42 (by decide) ?_
  refine w_iload_n d_CA_isAlikeToMember_43 rfl ?_
  refine w_iconst (v := nI 2) d_CA_isAlikeToMember_44 (by decide) ?_
  refine w_iadd d_CA_isAlikeToMember_45 ?_
  refine w_topi (y := nI 2) (by decide) ?_
  refine w_gets (i := 12) d_CA_isAlikeToMember_46 (by decide +kernel) g_CA_33 ?_
  refine w_tlen (v := nI 12) d_CA_isAlikeToMember_49 (hT 12 _ rfl) rfl ?_
  refine w_icmp_ge (tgt := 132) d_CA_isAlikeToMember_50 rfl (fun z => absurd z (by decide)) (fun _ => ?_)
  refine w_gets (i := 12) d_CA_isAlikeToMember_53 (by decide +kernel) g_CA_33 ?_
  refine w_iload_n d_CA_isAlikeToMember_56 rfl ?_
  refine w_ti d_CA_isAlikeToMember_57 (hT 12 _ rfl) (vp_in_nI (by decide) (by decide)) ?_
  refine w_topi (y := nI 75) (by decide) ?_
  refine w_istore_n d_CA_isAlikeToMember_58 (by decide) ?_
  refine w_gets (i := 12) d_CA_isAlikeToMember_59 (by decide +kernel) g_CA_33 ?_
  refine w_iload_n d_CA_isAlikeToMember_62 rfl ?_
  refine w_iconst (v := nI 1) d_CA_isAlikeToMember_63 (by decide) ?_
  refine w_iadd d_CA_isAlikeToMember_64 ?_
  refine w_topi (y := nI 1) (by decide) ?_
  refine w_ti d_CA_isAlikeToMember_65 (hT 12 _ rfl) (vp_in_nI (by decide) (by decide)) ?_
  refine w_topi (y := nI 107) (by decide) ?_
  refine w_istore d_CA_isAlikeToMember_66 (by decide) ?_
  refine w_gets (i := 12) d_CA_isAlikeToMember_68 (by decide +kernel) g_CA_33 ?_
  refine w_iload_n d_CA_isAlikeToMember_71 rfl ?_
  refine w_iconst (v := nI 2) d_CA_isAlikeToMember_72 (by decide) ?_
  refine w_iadd d_CA_isAlikeToMember_73 ?_
  refine w_topi (y := nI 2) (by decide) ?_
  refine w_ti d_CA_isAlikeToMember_74 (hT 12 _ rfl) (vp_in_nI (by decide) (by decide)) ?_
  refine w_topi (y := nI 8490) (by decide) ?_
  refine w_istore d_CA_isAlikeToMember_75 (by decide) ?_
  refine w_iload_n d_CA_isAlikeToMember_77 rfl ?_
  refine w_iload_n d_CA_isAlikeToMember_78 rfl ?_
  suffices J126 : (¬ c = 75 ∧ ¬ c = 107 ∧ ¬ c = 8490) → WP X M_CA_isAlikeToMember (wR 1 0 0) 0 EN 0 0 126 [some (.ref p), some (.int (nI c)), some (.int (nI 0)), some (.int (nI 75)), some (.int (nI 107)), some (.int (nI 8490))] [] h by
    suffices J94 : (c = 75 ∨ c = 107 ∨ c = 8490) → WP X M_CA_isAlikeToMember (wR 1 0 0) 0 EN 0 0 94 [some (.ref p), some (.int (nI c)), some (.int (nI 0)), some (.int (nI 75)), some (.int (nI 107)), some (.int (nI 8490))] [] h by
      refine w_icmp_eq (tgt := 94) d_CA_isAlikeToMember_79 rfl (fun c79 => ?_) (fun c79 => ?_)
      · have c79 : c = 75 := (nI_eq (by omega) (by decide)).mp c79
        exact J94 (Or.inl c79)
      · have c79 : ¬ c = 75 := fun z => c79 (by rw [z])
        refine w_iload_n d_CA_isAlikeToMember_82 rfl ?_
        refine w_iload d_CA_isAlikeToMember_83 rfl ?_
        refine w_icmp_eq (tgt := 94) d_CA_isAlikeToMember_85 rfl (fun c85 => ?_) (fun c85 => ?_)
        · have c85 : c = 107 := (nI_eq (by omega) (by decide)).mp c85
          exact J94 (Or.inr (Or.inl c85))
        · have c85 : ¬ c = 107 := fun z => c85 (by rw [z])
          refine w_iload_n d_CA_isAlikeToMember_88 rfl ?_
          refine w_iload d_CA_isAlikeToMember_89 rfl ?_
          refine w_icmp_ne (tgt := 126) d_CA_isAlikeToMember_91 rfl (fun c91 => ?_) (fun c91 => ?_)
          · have c91 : ¬ c = 8490 := fun z => c91 (by rw [z])
            exact J126 ⟨c79, c85, c91⟩
          · have c91 : c = 8490 := (nI_eq (by omega) (by decide)).mp c91
            exact J94 (Or.inr (Or.inr c91))
    intro y75
    refine w_aload_n d_CA_isAlikeToMember_94 rfl rfl ?_
    refine w_iload_n d_CA_isAlikeToMember_95 rfl ?_
    refine w_callV (as := [.int (nI 75)]) (st := []) d_CA_isAlikeToMember_96 yM_MS_holdsCode l_CA_30 vM_MS_holdsCode hp rfl rfl rfl rfl (m_MS_holdsCode hhm hA hE31 (by omega)) (by decide) (by decide) (by decide) (by decide) (Nat.le_of_ble_eq_true rfl) ?_
    rintro _ h9_5 ⟨rfl, e9_5⟩
    rw [e9_5]
    refine w_eq (st' := [.int (bI (eMem E (75)))]) rfl ?_
    refine w_if_ne (tgt := 120) d_CA_isAlikeToMember_99 rfl (fun c99 => ?_) (fun c99 => ?_)
    · have c99 := bI_t c99
      refine w_iconst (v := nI 1) d_CA_isAlikeToMember_120 (by decide) ?_
      refine w_goto (tgt := 125) d_CA_isAlikeToMember_121 rfl ?_
      rw [← hEN]
      refine w_zret d_CA_isAlikeToMember_125 rfl (by first | exact Or.inl rfl | exact Or.inr rfl) ?_
      unfold alk
      rw [n1, n2, show alk3 E c = (eMem E 75 || eMem E 107 || eMem E 8490) by unfold alk3; rw [if_pos y75]]
      first | (rw [c99]; exact ⟨rfl, rfl⟩) | (rw [c99, c108]; exact ⟨rfl, rfl⟩) | (rw [c99, c108, c117]; exact ⟨rfl, rfl⟩)
    · have c99 := bI_f c99
      refine w_aload_n d_CA_isAlikeToMember_102 rfl rfl ?_
      refine w_iload d_CA_isAlikeToMember_103 rfl ?_
      refine w_callV (as := [.int (nI 107)]) (st := []) d_CA_isAlikeToMember_105 yM_MS_holdsCode l_CA_30 vM_MS_holdsCode hp rfl rfl rfl rfl (m_MS_holdsCode hhm hA hE31 (by omega)) (by decide) (by decide) (by decide) (by decide) (Nat.le_of_ble_eq_true rfl) ?_
      rintro _ h9_6 ⟨rfl, e9_6⟩
      rw [e9_6]
      refine w_eq (st' := [.int (bI (eMem E (107)))]) rfl ?_
      refine w_if_ne (tgt := 120) d_CA_isAlikeToMember_108 rfl (fun c108 => ?_) (fun c108 => ?_)
      · have c108 := bI_t c108
        refine w_iconst (v := nI 1) d_CA_isAlikeToMember_120 (by decide) ?_
        refine w_goto (tgt := 125) d_CA_isAlikeToMember_121 rfl ?_
        rw [← hEN]
        refine w_zret d_CA_isAlikeToMember_125 rfl (by first | exact Or.inl rfl | exact Or.inr rfl) ?_
        unfold alk
        rw [n1, n2, show alk3 E c = (eMem E 75 || eMem E 107 || eMem E 8490) by unfold alk3; rw [if_pos y75]]
        first | (rw [c99]; exact ⟨rfl, rfl⟩) | (rw [c99, c108]; exact ⟨rfl, rfl⟩) | (rw [c99, c108, c117]; exact ⟨rfl, rfl⟩)
      · have c108 := bI_f c108
        refine w_aload_n d_CA_isAlikeToMember_111 rfl rfl ?_
        refine w_iload d_CA_isAlikeToMember_112 rfl ?_
        refine w_callV (as := [.int (nI 8490)]) (st := []) d_CA_isAlikeToMember_114 yM_MS_holdsCode l_CA_30 vM_MS_holdsCode hp rfl rfl rfl rfl (m_MS_holdsCode hhm hA hE31 (by omega)) (by decide) (by decide) (by decide) (by decide) (Nat.le_of_ble_eq_true rfl) ?_
        rintro _ h9_7 ⟨rfl, e9_7⟩
        rw [e9_7]
        refine w_eq (st' := [.int (bI (eMem E (8490)))]) rfl ?_
        refine w_if_eq (tgt := 124) d_CA_isAlikeToMember_117 rfl (fun c117 => ?_) (fun c117 => ?_)
        · have c117 := bI_f c117
          refine w_iconst (v := nI 0) d_CA_isAlikeToMember_124 (by decide) ?_
          rw [← hEN]
          refine w_zret d_CA_isAlikeToMember_125 rfl (by first | exact Or.inl rfl | exact Or.inr rfl) ?_
          unfold alk
          rw [n1, n2, show alk3 E c = (eMem E 75 || eMem E 107 || eMem E 8490) by unfold alk3; rw [if_pos y75]]
          first | (rw [c99]; exact ⟨rfl, rfl⟩) | (rw [c99, c108]; exact ⟨rfl, rfl⟩) | (rw [c99, c108, c117]; exact ⟨rfl, rfl⟩)
        · have c117 := bI_t c117
          refine w_iconst (v := nI 1) d_CA_isAlikeToMember_120 (by decide) ?_
          refine w_goto (tgt := 125) d_CA_isAlikeToMember_121 rfl ?_
          rw [← hEN]
          refine w_zret d_CA_isAlikeToMember_125 rfl (by first | exact Or.inl rfl | exact Or.inr rfl) ?_
          unfold alk
          rw [n1, n2, show alk3 E c = (eMem E 75 || eMem E 107 || eMem E 8490) by unfold alk3; rw [if_pos y75]]
          first | (rw [c99]; exact ⟨rfl, rfl⟩) | (rw [c99, c108]; exact ⟨rfl, rfl⟩) | (rw [c99, c108, c117]; exact ⟨rfl, rfl⟩)
  intro z75
  refine w_iinc (v := nI 3) d_CA_isAlikeToMember_126 rfl (by decide) (by decide) ?_
  refine w_goto (tgt := 43) d_CA_isAlikeToMember_129 rfl ?_
  refine w_iload_n d_CA_isAlikeToMember_43 rfl ?_
  refine w_iconst (v := nI 2) d_CA_isAlikeToMember_44 (by decide) ?_
  refine w_iadd d_CA_isAlikeToMember_45 ?_
  refine w_topi (y := nI 5) (by decide) ?_
  refine w_gets (i := 12) d_CA_isAlikeToMember_46 (by decide +kernel) g_CA_33 ?_
  refine w_tlen (v := nI 12) d_CA_isAlikeToMember_49 (hT 12 _ rfl) rfl ?_
  refine w_icmp_ge (tgt := 132) d_CA_isAlikeToMember_50 rfl (fun z => absurd z (by decide)) (fun _ => ?_)
  refine w_gets (i := 12) d_CA_isAlikeToMember_53 (by decide +kernel) g_CA_33 ?_
  refine w_iload_n d_CA_isAlikeToMember_56 rfl ?_
  refine w_ti d_CA_isAlikeToMember_57 (hT 12 _ rfl) (vp_in_nI (by decide) (by decide)) ?_
  refine w_topi (y := nI 83) (by decide) ?_
  refine w_istore_n d_CA_isAlikeToMember_58 (by decide) ?_
  refine w_gets (i := 12) d_CA_isAlikeToMember_59 (by decide +kernel) g_CA_33 ?_
  refine w_iload_n d_CA_isAlikeToMember_62 rfl ?_
  refine w_iconst (v := nI 1) d_CA_isAlikeToMember_63 (by decide) ?_
  refine w_iadd d_CA_isAlikeToMember_64 ?_
  refine w_topi (y := nI 4) (by decide) ?_
  refine w_ti d_CA_isAlikeToMember_65 (hT 12 _ rfl) (vp_in_nI (by decide) (by decide)) ?_
  refine w_topi (y := nI 115) (by decide) ?_
  refine w_istore d_CA_isAlikeToMember_66 (by decide) ?_
  refine w_gets (i := 12) d_CA_isAlikeToMember_68 (by decide +kernel) g_CA_33 ?_
  refine w_iload_n d_CA_isAlikeToMember_71 rfl ?_
  refine w_iconst (v := nI 2) d_CA_isAlikeToMember_72 (by decide) ?_
  refine w_iadd d_CA_isAlikeToMember_73 ?_
  refine w_topi (y := nI 5) (by decide) ?_
  refine w_ti d_CA_isAlikeToMember_74 (hT 12 _ rfl) (vp_in_nI (by decide) (by decide)) ?_
  refine w_topi (y := nI 383) (by decide) ?_
  refine w_istore d_CA_isAlikeToMember_75 (by decide) ?_
  refine w_iload_n d_CA_isAlikeToMember_77 rfl ?_
  refine w_iload_n d_CA_isAlikeToMember_78 rfl ?_
  suffices J126 : (¬ c = 83 ∧ ¬ c = 115 ∧ ¬ c = 383) → WP X M_CA_isAlikeToMember (wR 1 0 0) 0 EN 0 0 126 [some (.ref p), some (.int (nI c)), some (.int (nI 3)), some (.int (nI 83)), some (.int (nI 115)), some (.int (nI 383))] [] h by
    suffices J94 : (c = 83 ∨ c = 115 ∨ c = 383) → WP X M_CA_isAlikeToMember (wR 1 0 0) 0 EN 0 0 94 [some (.ref p), some (.int (nI c)), some (.int (nI 3)), some (.int (nI 83)), some (.int (nI 115)), some (.int (nI 383))] [] h by
      refine w_icmp_eq (tgt := 94) d_CA_isAlikeToMember_79 rfl (fun c79 => ?_) (fun c79 => ?_)
      · have c79 : c = 83 := (nI_eq (by omega) (by decide)).mp c79
        exact J94 (Or.inl c79)
      · have c79 : ¬ c = 83 := fun z => c79 (by rw [z])
        refine w_iload_n d_CA_isAlikeToMember_82 rfl ?_
        refine w_iload d_CA_isAlikeToMember_83 rfl ?_
        refine w_icmp_eq (tgt := 94) d_CA_isAlikeToMember_85 rfl (fun c85 => ?_) (fun c85 => ?_)
        · have c85 : c = 115 := (nI_eq (by omega) (by decide)).mp c85
          exact J94 (Or.inr (Or.inl c85))
        · have c85 : ¬ c = 115 := fun z => c85 (by rw [z])
          refine w_iload_n d_CA_isAlikeToMember_88 rfl ?_
          refine w_iload d_CA_isAlikeToMember_89 rfl ?_
          refine w_icmp_ne (tgt := 126) d_CA_isAlikeToMember_91 rfl (fun c91 => ?_) (fun c91 => ?_)
          · have c91 : ¬ c = 383 := fun z => c91 (by rw [z])
            exact J126 ⟨c79, c85, c91⟩
          · have c91 : c = 383 := (nI_eq (by omega) (by decide)).mp c91
            exact J94 (Or.inr (Or.inr c91))
    intro y83
    refine w_aload_n d_CA_isAlikeToMember_94 rfl rfl ?_
    refine w_iload_n d_CA_isAlikeToMember_95 rfl ?_
    refine w_callV (as := [.int (nI 83)]) (st := []) d_CA_isAlikeToMember_96 yM_MS_holdsCode l_CA_30 vM_MS_holdsCode hp rfl rfl rfl rfl (m_MS_holdsCode hhm hA hE31 (by omega)) (by decide) (by decide) (by decide) (by decide) (Nat.le_of_ble_eq_true rfl) ?_
    rintro _ h9_8 ⟨rfl, e9_8⟩
    rw [e9_8]
    refine w_eq (st' := [.int (bI (eMem E (83)))]) rfl ?_
    refine w_if_ne (tgt := 120) d_CA_isAlikeToMember_99 rfl (fun c99 => ?_) (fun c99 => ?_)
    · have c99 := bI_t c99
      refine w_iconst (v := nI 1) d_CA_isAlikeToMember_120 (by decide) ?_
      refine w_goto (tgt := 125) d_CA_isAlikeToMember_121 rfl ?_
      rw [← hEN]
      refine w_zret d_CA_isAlikeToMember_125 rfl (by first | exact Or.inl rfl | exact Or.inr rfl) ?_
      unfold alk
      rw [n1, n2, show alk3 E c = (eMem E 83 || eMem E 115 || eMem E 383) by unfold alk3; rw [if_neg (by omega), if_pos y83]]
      first | (rw [c99]; exact ⟨rfl, rfl⟩) | (rw [c99, c108]; exact ⟨rfl, rfl⟩) | (rw [c99, c108, c117]; exact ⟨rfl, rfl⟩)
    · have c99 := bI_f c99
      refine w_aload_n d_CA_isAlikeToMember_102 rfl rfl ?_
      refine w_iload d_CA_isAlikeToMember_103 rfl ?_
      refine w_callV (as := [.int (nI 115)]) (st := []) d_CA_isAlikeToMember_105 yM_MS_holdsCode l_CA_30 vM_MS_holdsCode hp rfl rfl rfl rfl (m_MS_holdsCode hhm hA hE31 (by omega)) (by decide) (by decide) (by decide) (by decide) (Nat.le_of_ble_eq_true rfl) ?_
      rintro _ h9_9 ⟨rfl, e9_9⟩
      rw [e9_9]
      refine w_eq (st' := [.int (bI (eMem E (115)))]) rfl ?_
      refine w_if_ne (tgt := 120) d_CA_isAlikeToMember_108 rfl (fun c108 => ?_) (fun c108 => ?_)
      · have c108 := bI_t c108
        refine w_iconst (v := nI 1) d_CA_isAlikeToMember_120 (by decide) ?_
        refine w_goto (tgt := 125) d_CA_isAlikeToMember_121 rfl ?_
        rw [← hEN]
        refine w_zret d_CA_isAlikeToMember_125 rfl (by first | exact Or.inl rfl | exact Or.inr rfl) ?_
        unfold alk
        rw [n1, n2, show alk3 E c = (eMem E 83 || eMem E 115 || eMem E 383) by unfold alk3; rw [if_neg (by omega), if_pos y83]]
        first | (rw [c99]; exact ⟨rfl, rfl⟩) | (rw [c99, c108]; exact ⟨rfl, rfl⟩) | (rw [c99, c108, c117]; exact ⟨rfl, rfl⟩)
      · have c108 := bI_f c108
        refine w_aload_n d_CA_isAlikeToMember_111 rfl rfl ?_
        refine w_iload d_CA_isAlikeToMember_112 rfl ?_
        refine w_callV (as := [.int (nI 383)]) (st := []) d_CA_isAlikeToMember_114 yM_MS_holdsCode l_CA_30 vM_MS_holdsCode hp rfl rfl rfl rfl (m_MS_holdsCode hhm hA hE31 (by omega)) (by decide) (by decide) (by decide) (by decide) (Nat.le_of_ble_eq_true rfl) ?_
        rintro _ h9_10 ⟨rfl, e9_10⟩
        rw [e9_10]
        refine w_eq (st' := [.int (bI (eMem E (383)))]) rfl ?_
        refine w_if_eq (tgt := 124) d_CA_isAlikeToMember_117 rfl (fun c117 => ?_) (fun c117 => ?_)
        · have c117 := bI_f c117
          refine w_iconst (v := nI 0) d_CA_isAlikeToMember_124 (by decide) ?_
          rw [← hEN]
          refine w_zret d_CA_isAlikeToMember_125 rfl (by first | exact Or.inl rfl | exact Or.inr rfl) ?_
          unfold alk
          rw [n1, n2, show alk3 E c = (eMem E 83 || eMem E 115 || eMem E 383) by unfold alk3; rw [if_neg (by omega), if_pos y83]]
          first | (rw [c99]; exact ⟨rfl, rfl⟩) | (rw [c99, c108]; exact ⟨rfl, rfl⟩) | (rw [c99, c108, c117]; exact ⟨rfl, rfl⟩)
        · have c117 := bI_t c117
          refine w_iconst (v := nI 1) d_CA_isAlikeToMember_120 (by decide) ?_
          refine w_goto (tgt := 125) d_CA_isAlikeToMember_121 rfl ?_
          rw [← hEN]
          refine w_zret d_CA_isAlikeToMember_125 rfl (by first | exact Or.inl rfl | exact Or.inr rfl) ?_
          unfold alk
          rw [n1, n2, show alk3 E c = (eMem E 83 || eMem E 115 || eMem E 383) by unfold alk3; rw [if_neg (by omega), if_pos y83]]
          first | (rw [c99]; exact ⟨rfl, rfl⟩) | (rw [c99, c108]; exact ⟨rfl, rfl⟩) | (rw [c99, c108, c117]; exact ⟨rfl, rfl⟩)
  intro z83
  refine w_iinc (v := nI 6) d_CA_isAlikeToMember_126 rfl (by decide) (by decide) ?_
  refine w_goto (tgt := 43) d_CA_isAlikeToMember_129 rfl ?_
  refine w_iload_n d_CA_isAlikeToMember_43 rfl ?_
  refine w_iconst (v := nI 2) d_CA_isAlikeToMember_44 (by decide) ?_
  refine w_iadd d_CA_isAlikeToMember_45 ?_
  refine w_topi (y := nI 8) (by decide) ?_
  refine w_gets (i := 12) d_CA_isAlikeToMember_46 (by decide +kernel) g_CA_33 ?_
  refine w_tlen (v := nI 12) d_CA_isAlikeToMember_49 (hT 12 _ rfl) rfl ?_
  refine w_icmp_ge (tgt := 132) d_CA_isAlikeToMember_50 rfl (fun z => absurd z (by decide)) (fun _ => ?_)
  refine w_gets (i := 12) d_CA_isAlikeToMember_53 (by decide +kernel) g_CA_33 ?_
  refine w_iload_n d_CA_isAlikeToMember_56 rfl ?_
  refine w_ti d_CA_isAlikeToMember_57 (hT 12 _ rfl) (vp_in_nI (by decide) (by decide)) ?_
  refine w_topi (y := nI 197) (by decide) ?_
  refine w_istore_n d_CA_isAlikeToMember_58 (by decide) ?_
  refine w_gets (i := 12) d_CA_isAlikeToMember_59 (by decide +kernel) g_CA_33 ?_
  refine w_iload_n d_CA_isAlikeToMember_62 rfl ?_
  refine w_iconst (v := nI 1) d_CA_isAlikeToMember_63 (by decide) ?_
  refine w_iadd d_CA_isAlikeToMember_64 ?_
  refine w_topi (y := nI 7) (by decide) ?_
  refine w_ti d_CA_isAlikeToMember_65 (hT 12 _ rfl) (vp_in_nI (by decide) (by decide)) ?_
  refine w_topi (y := nI 229) (by decide) ?_
  refine w_istore d_CA_isAlikeToMember_66 (by decide) ?_
  refine w_gets (i := 12) d_CA_isAlikeToMember_68 (by decide +kernel) g_CA_33 ?_
  refine w_iload_n d_CA_isAlikeToMember_71 rfl ?_
  refine w_iconst (v := nI 2) d_CA_isAlikeToMember_72 (by decide) ?_
  refine w_iadd d_CA_isAlikeToMember_73 ?_
  refine w_topi (y := nI 8) (by decide) ?_
  refine w_ti d_CA_isAlikeToMember_74 (hT 12 _ rfl) (vp_in_nI (by decide) (by decide)) ?_
  refine w_topi (y := nI 8491) (by decide) ?_
  refine w_istore d_CA_isAlikeToMember_75 (by decide) ?_
  refine w_iload_n d_CA_isAlikeToMember_77 rfl ?_
  refine w_iload_n d_CA_isAlikeToMember_78 rfl ?_
  suffices J126 : (¬ c = 197 ∧ ¬ c = 229 ∧ ¬ c = 8491) → WP X M_CA_isAlikeToMember (wR 1 0 0) 0 EN 0 0 126 [some (.ref p), some (.int (nI c)), some (.int (nI 6)), some (.int (nI 197)), some (.int (nI 229)), some (.int (nI 8491))] [] h by
    suffices J94 : (c = 197 ∨ c = 229 ∨ c = 8491) → WP X M_CA_isAlikeToMember (wR 1 0 0) 0 EN 0 0 94 [some (.ref p), some (.int (nI c)), some (.int (nI 6)), some (.int (nI 197)), some (.int (nI 229)), some (.int (nI 8491))] [] h by
      refine w_icmp_eq (tgt := 94) d_CA_isAlikeToMember_79 rfl (fun c79 => ?_) (fun c79 => ?_)
      · have c79 : c = 197 := (nI_eq (by omega) (by decide)).mp c79
        exact J94 (Or.inl c79)
      · have c79 : ¬ c = 197 := fun z => c79 (by rw [z])
        refine w_iload_n d_CA_isAlikeToMember_82 rfl ?_
        refine w_iload d_CA_isAlikeToMember_83 rfl ?_
        refine w_icmp_eq (tgt := 94) d_CA_isAlikeToMember_85 rfl (fun c85 => ?_) (fun c85 => ?_)
        · have c85 : c = 229 := (nI_eq (by omega) (by decide)).mp c85
          exact J94 (Or.inr (Or.inl c85))
        · have c85 : ¬ c = 229 := fun z => c85 (by rw [z])
          refine w_iload_n d_CA_isAlikeToMember_88 rfl ?_
          refine w_iload d_CA_isAlikeToMember_89 rfl ?_
          refine w_icmp_ne (tgt := 126) d_CA_isAlikeToMember_91 rfl (fun c91 => ?_) (fun c91 => ?_)
          · have c91 : ¬ c = 8491 := fun z => c91 (by rw [z])
            exact J126 ⟨c79, c85, c91⟩
          · have c91 : c = 8491 := (nI_eq (by omega) (by decide)).mp c91
            exact J94 (Or.inr (Or.inr c91))
    intro y197
    refine w_aload_n d_CA_isAlikeToMember_94 rfl rfl ?_
    refine w_iload_n d_CA_isAlikeToMember_95 rfl ?_
    refine w_callV (as := [.int (nI 197)]) (st := []) d_CA_isAlikeToMember_96 yM_MS_holdsCode l_CA_30 vM_MS_holdsCode hp rfl rfl rfl rfl (m_MS_holdsCode hhm hA hE31 (by omega)) (by decide) (by decide) (by decide) (by decide) (Nat.le_of_ble_eq_true rfl) ?_
    rintro _ h9_11 ⟨rfl, e9_11⟩
    rw [e9_11]
    refine w_eq (st' := [.int (bI (eMem E (197)))]) rfl ?_
    refine w_if_ne (tgt := 120) d_CA_isAlikeToMember_99 rfl (fun c99 => ?_) (fun c99 => ?_)
    · have c99 := bI_t c99
      refine w_iconst (v := nI 1) d_CA_isAlikeToMember_120 (by decide) ?_
      refine w_goto (tgt := 125) d_CA_isAlikeToMember_121 rfl ?_
      rw [← hEN]
      refine w_zret d_CA_isAlikeToMember_125 rfl (by first | exact Or.inl rfl | exact Or.inr rfl) ?_
      unfold alk
      rw [n1, n2, show alk3 E c = (eMem E 197 || eMem E 229 || eMem E 8491) by unfold alk3; rw [if_neg (by omega), if_neg (by omega), if_pos y197]]
      first | (rw [c99]; exact ⟨rfl, rfl⟩) | (rw [c99, c108]; exact ⟨rfl, rfl⟩) | (rw [c99, c108, c117]; exact ⟨rfl, rfl⟩)
    · have c99 := bI_f c99
      refine w_aload_n d_CA_isAlikeToMember_102 rfl rfl ?_
      refine w_iload d_CA_isAlikeToMember_103 rfl ?_
      refine w_callV (as := [.int (nI 229)]) (st := []) d_CA_isAlikeToMember_105 yM_MS_holdsCode l_CA_30 vM_MS_holdsCode hp rfl rfl rfl rfl (m_MS_holdsCode hhm hA hE31 (by omega)) (by decide) (by decide) (by decide) (by decide) (Nat.le_of_ble_eq_true rfl) ?_
      rintro _ h9_12 ⟨rfl, e9_12⟩
      rw [e9_12]
      refine w_eq (st' := [.int (bI (eMem E (229)))]) rfl ?_
      refine w_if_ne (tgt := 120) d_CA_isAlikeToMember_108 rfl (fun c108 => ?_) (fun c108 => ?_)
      · have c108 := bI_t c108
        refine w_iconst (v := nI 1) d_CA_isAlikeToMember_120 (by decide) ?_
        refine w_goto (tgt := 125) d_CA_isAlikeToMember_121 rfl ?_
        rw [← hEN]
        refine w_zret d_CA_isAlikeToMember_125 rfl (by first | exact Or.inl rfl | exact Or.inr rfl) ?_
        unfold alk
        rw [n1, n2, show alk3 E c = (eMem E 197 || eMem E 229 || eMem E 8491) by unfold alk3; rw [if_neg (by omega), if_neg (by omega), if_pos y197]]
        first | (rw [c99]; exact ⟨rfl, rfl⟩) | (rw [c99, c108]; exact ⟨rfl, rfl⟩) | (rw [c99, c108, c117]; exact ⟨rfl, rfl⟩)
      · have c108 := bI_f c108
        refine w_aload_n d_CA_isAlikeToMember_111 rfl rfl ?_
        refine w_iload d_CA_isAlikeToMember_112 rfl ?_
        refine w_callV (as := [.int (nI 8491)]) (st := []) d_CA_isAlikeToMember_114 yM_MS_holdsCode l_CA_30 vM_MS_holdsCode hp rfl rfl rfl rfl (m_MS_holdsCode hhm hA hE31 (by omega)) (by decide) (by decide) (by decide) (by decide) (Nat.le_of_ble_eq_true rfl) ?_
        rintro _ h9_13 ⟨rfl, e9_13⟩
        rw [e9_13]
        refine w_eq (st' := [.int (bI (eMem E (8491)))]) rfl ?_
        refine w_if_eq (tgt := 124) d_CA_isAlikeToMember_117 rfl (fun c117 => ?_) (fun c117 => ?_)
        · have c117 := bI_f c117
          refine w_iconst (v := nI 0) d_CA_isAlikeToMember_124 (by decide) ?_
          rw [← hEN]
          refine w_zret d_CA_isAlikeToMember_125 rfl (by first | exact Or.inl rfl | exact Or.inr rfl) ?_
          unfold alk
          rw [n1, n2, show alk3 E c = (eMem E 197 || eMem E 229 || eMem E 8491) by unfold alk3; rw [if_neg (by omega), if_neg (by omega), if_pos y197]]
          first | (rw [c99]; exact ⟨rfl, rfl⟩) | (rw [c99, c108]; exact ⟨rfl, rfl⟩) | (rw [c99, c108, c117]; exact ⟨rfl, rfl⟩)
        · have c117 := bI_t c117
          refine w_iconst (v := nI 1) d_CA_isAlikeToMember_120 (by decide) ?_
          refine w_goto (tgt := 125) d_CA_isAlikeToMember_121 rfl ?_
          rw [← hEN]
          refine w_zret d_CA_isAlikeToMember_125 rfl (by first | exact Or.inl rfl | exact Or.inr rfl) ?_
          unfold alk
          rw [n1, n2, show alk3 E c = (eMem E 197 || eMem E 229 || eMem E 8491) by unfold alk3; rw [if_neg (by omega), if_neg (by omega), if_pos y197]]
          first | (rw [c99]; exact ⟨rfl, rfl⟩) | (rw [c99, c108]; exact ⟨rfl, rfl⟩) | (rw [c99, c108, c117]; exact ⟨rfl, rfl⟩)
  intro z197
  refine w_iinc (v := nI 9) d_CA_isAlikeToMember_126 rfl (by decide) (by decide) ?_
  refine w_goto (tgt := 43) d_CA_isAlikeToMember_129 rfl ?_
  refine w_iload_n d_CA_isAlikeToMember_43 rfl ?_
  refine w_iconst (v := nI 2) d_CA_isAlikeToMember_44 (by decide) ?_
  refine w_iadd d_CA_isAlikeToMember_45 ?_
  refine w_topi (y := nI 11) (by decide) ?_
  refine w_gets (i := 12) d_CA_isAlikeToMember_46 (by decide +kernel) g_CA_33 ?_
  refine w_tlen (v := nI 12) d_CA_isAlikeToMember_49 (hT 12 _ rfl) rfl ?_
  refine w_icmp_ge (tgt := 132) d_CA_isAlikeToMember_50 rfl (fun z => absurd z (by decide)) (fun _ => ?_)
  refine w_gets (i := 12) d_CA_isAlikeToMember_53 (by decide +kernel) g_CA_33 ?_
  refine w_iload_n d_CA_isAlikeToMember_56 rfl ?_
  refine w_ti d_CA_isAlikeToMember_57 (hT 12 _ rfl) (vp_in_nI (by decide) (by decide)) ?_
  refine w_topi (y := nI 931) (by decide) ?_
  refine w_istore_n d_CA_isAlikeToMember_58 (by decide) ?_
  refine w_gets (i := 12) d_CA_isAlikeToMember_59 (by decide +kernel) g_CA_33 ?_
  refine w_iload_n d_CA_isAlikeToMember_62 rfl ?_
  refine w_iconst (v := nI 1) d_CA_isAlikeToMember_63 (by decide) ?_
  refine w_iadd d_CA_isAlikeToMember_64 ?_
  refine w_topi (y := nI 10) (by decide) ?_
  refine w_ti d_CA_isAlikeToMember_65 (hT 12 _ rfl) (vp_in_nI (by decide) (by decide)) ?_
  refine w_topi (y := nI 962) (by decide) ?_
  refine w_istore d_CA_isAlikeToMember_66 (by decide) ?_
  refine w_gets (i := 12) d_CA_isAlikeToMember_68 (by decide +kernel) g_CA_33 ?_
  refine w_iload_n d_CA_isAlikeToMember_71 rfl ?_
  refine w_iconst (v := nI 2) d_CA_isAlikeToMember_72 (by decide) ?_
  refine w_iadd d_CA_isAlikeToMember_73 ?_
  refine w_topi (y := nI 11) (by decide) ?_
  refine w_ti d_CA_isAlikeToMember_74 (hT 12 _ rfl) (vp_in_nI (by decide) (by decide)) ?_
  refine w_topi (y := nI 963) (by decide) ?_
  refine w_istore d_CA_isAlikeToMember_75 (by decide) ?_
  refine w_iload_n d_CA_isAlikeToMember_77 rfl ?_
  refine w_iload_n d_CA_isAlikeToMember_78 rfl ?_
  suffices J126 : (¬ c = 931 ∧ ¬ c = 962 ∧ ¬ c = 963) → WP X M_CA_isAlikeToMember (wR 1 0 0) 0 EN 0 0 126 [some (.ref p), some (.int (nI c)), some (.int (nI 9)), some (.int (nI 931)), some (.int (nI 962)), some (.int (nI 963))] [] h by
    suffices J94 : (c = 931 ∨ c = 962 ∨ c = 963) → WP X M_CA_isAlikeToMember (wR 1 0 0) 0 EN 0 0 94 [some (.ref p), some (.int (nI c)), some (.int (nI 9)), some (.int (nI 931)), some (.int (nI 962)), some (.int (nI 963))] [] h by
      refine w_icmp_eq (tgt := 94) d_CA_isAlikeToMember_79 rfl (fun c79 => ?_) (fun c79 => ?_)
      · have c79 : c = 931 := (nI_eq (by omega) (by decide)).mp c79
        exact J94 (Or.inl c79)
      · have c79 : ¬ c = 931 := fun z => c79 (by rw [z])
        refine w_iload_n d_CA_isAlikeToMember_82 rfl ?_
        refine w_iload d_CA_isAlikeToMember_83 rfl ?_
        refine w_icmp_eq (tgt := 94) d_CA_isAlikeToMember_85 rfl (fun c85 => ?_) (fun c85 => ?_)
        · have c85 : c = 962 := (nI_eq (by omega) (by decide)).mp c85
          exact J94 (Or.inr (Or.inl c85))
        · have c85 : ¬ c = 962 := fun z => c85 (by rw [z])
          refine w_iload_n d_CA_isAlikeToMember_88 rfl ?_
          refine w_iload d_CA_isAlikeToMember_89 rfl ?_
          refine w_icmp_ne (tgt := 126) d_CA_isAlikeToMember_91 rfl (fun c91 => ?_) (fun c91 => ?_)
          · have c91 : ¬ c = 963 := fun z => c91 (by rw [z])
            exact J126 ⟨c79, c85, c91⟩
          · have c91 : c = 963 := (nI_eq (by omega) (by decide)).mp c91
            exact J94 (Or.inr (Or.inr c91))
    intro y931
    refine w_aload_n d_CA_isAlikeToMember_94 rfl rfl ?_
    refine w_iload_n d_CA_isAlikeToMember_95 rfl ?_
    refine w_callV (as := [.int (nI 931)]) (st := []) d_CA_isAlikeToMember_96 yM_MS_holdsCode l_CA_30 vM_MS_holdsCode hp rfl rfl rfl rfl (m_MS_holdsCode hhm hA hE31 (by omega)) (by decide) (by decide) (by decide) (by decide) (Nat.le_of_ble_eq_true rfl) ?_
    rintro _ h9_14 ⟨rfl, e9_14⟩
    rw [e9_14]
    refine w_eq (st' := [.int (bI (eMem E (931)))]) rfl ?_
    refine w_if_ne (tgt := 120) d_CA_isAlikeToMember_99 rfl (fun c99 => ?_) (fun c99 => ?_)
    · have c99 := bI_t c99
      refine w_iconst (v := nI 1) d_CA_isAlikeToMember_120 (by decide) ?_
      refine w_goto (tgt := 125) d_CA_isAlikeToMember_121 rfl ?_
      rw [← hEN]
      refine w_zret d_CA_isAlikeToMember_125 rfl (by first | exact Or.inl rfl | exact Or.inr rfl) ?_
      unfold alk
      rw [n1, n2, show alk3 E c = (eMem E 931 || eMem E 962 || eMem E 963) by unfold alk3; rw [if_neg (by omega), if_neg (by omega), if_neg (by omega), if_pos y931]]
      first | (rw [c99]; exact ⟨rfl, rfl⟩) | (rw [c99, c108]; exact ⟨rfl, rfl⟩) | (rw [c99, c108, c117]; exact ⟨rfl, rfl⟩)
    · have c99 := bI_f c99
      refine w_aload_n d_CA_isAlikeToMember_102 rfl rfl ?_
      refine w_iload d_CA_isAlikeToMember_103 rfl ?_
      refine w_callV (as := [.int (nI 962)]) (st := []) d_CA_isAlikeToMember_105 yM_MS_holdsCode l_CA_30 vM_MS_holdsCode hp rfl rfl rfl rfl (m_MS_holdsCode hhm hA hE31 (by omega)) (by decide) (by decide) (by decide) (by decide) (Nat.le_of_ble_eq_true rfl) ?_
      rintro _ h9_15 ⟨rfl, e9_15⟩
      rw [e9_15]
      refine w_eq (st' := [.int (bI (eMem E (962)))]) rfl ?_
      refine w_if_ne (tgt := 120) d_CA_isAlikeToMember_108 rfl (fun c108 => ?_) (fun c108 => ?_)
      · have c108 := bI_t c108
        refine w_iconst (v := nI 1) d_CA_isAlikeToMember_120 (by decide) ?_
        refine w_goto (tgt := 125) d_CA_isAlikeToMember_121 rfl ?_
        rw [← hEN]
        refine w_zret d_CA_isAlikeToMember_125 rfl (by first | exact Or.inl rfl | exact Or.inr rfl) ?_
        unfold alk
        rw [n1, n2, show alk3 E c = (eMem E 931 || eMem E 962 || eMem E 963) by unfold alk3; rw [if_neg (by omega), if_neg (by omega), if_neg (by omega), if_pos y931]]
        first | (rw [c99]; exact ⟨rfl, rfl⟩) | (rw [c99, c108]; exact ⟨rfl, rfl⟩) | (rw [c99, c108, c117]; exact ⟨rfl, rfl⟩)
      · have c108 := bI_f c108
        refine w_aload_n d_CA_isAlikeToMember_111 rfl rfl ?_
        refine w_iload d_CA_isAlikeToMember_112 rfl ?_
        refine w_callV (as := [.int (nI 963)]) (st := []) d_CA_isAlikeToMember_114 yM_MS_holdsCode l_CA_30 vM_MS_holdsCode hp rfl rfl rfl rfl (m_MS_holdsCode hhm hA hE31 (by omega)) (by decide) (by decide) (by decide) (by decide) (Nat.le_of_ble_eq_true rfl) ?_
        rintro _ h9_16 ⟨rfl, e9_16⟩
        rw [e9_16]
        refine w_eq (st' := [.int (bI (eMem E (963)))]) rfl ?_
        refine w_if_eq (tgt := 124) d_CA_isAlikeToMember_117 rfl (fun c117 => ?_) (fun c117 => ?_)
        · have c117 := bI_f c117
          refine w_iconst (v := nI 0) d_CA_isAlikeToMember_124 (by decide) ?_
          rw [← hEN]
          refine w_zret d_CA_isAlikeToMember_125 rfl (by first | exact Or.inl rfl | exact Or.inr rfl) ?_
          unfold alk
          rw [n1, n2, show alk3 E c = (eMem E 931 || eMem E 962 || eMem E 963) by unfold alk3; rw [if_neg (by omega), if_neg (by omega), if_neg (by omega), if_pos y931]]
          first | (rw [c99]; exact ⟨rfl, rfl⟩) | (rw [c99, c108]; exact ⟨rfl, rfl⟩) | (rw [c99, c108, c117]; exact ⟨rfl, rfl⟩)
        · have c117 := bI_t c117
          refine w_iconst (v := nI 1) d_CA_isAlikeToMember_120 (by decide) ?_
          refine w_goto (tgt := 125) d_CA_isAlikeToMember_121 rfl ?_
          rw [← hEN]
          refine w_zret d_CA_isAlikeToMember_125 rfl (by first | exact Or.inl rfl | exact Or.inr rfl) ?_
          unfold alk
          rw [n1, n2, show alk3 E c = (eMem E 931 || eMem E 962 || eMem E 963) by unfold alk3; rw [if_neg (by omega), if_neg (by omega), if_neg (by omega), if_pos y931]]
          first | (rw [c99]; exact ⟨rfl, rfl⟩) | (rw [c99, c108]; exact ⟨rfl, rfl⟩) | (rw [c99, c108, c117]; exact ⟨rfl, rfl⟩)
  intro z931
  refine w_iinc (v := nI 12) d_CA_isAlikeToMember_126 rfl (by decide) (by decide) ?_
  refine w_goto (tgt := 43) d_CA_isAlikeToMember_129 rfl ?_
  refine w_iload_n d_CA_isAlikeToMember_43 rfl ?_
  refine w_iconst (v := nI 2) d_CA_isAlikeToMember_44 (by decide) ?_
  refine w_iadd d_CA_isAlikeToMember_45 ?_
  refine w_topi (y := nI 14) (by decide) ?_
  refine w_gets (i := 12) d_CA_isAlikeToMember_46 (by decide +kernel) g_CA_33 ?_
  refine w_tlen (v := nI 12) d_CA_isAlikeToMember_49 (hT 12 _ rfl) rfl ?_
  refine w_icmp_ge (tgt := 132) d_CA_isAlikeToMember_50 rfl (fun _ => ?_) (fun z => absurd (by decide) z)
  refine w_iconst (v := nI 0) d_CA_isAlikeToMember_132 (by decide) ?_
  rw [← hEN]
  refine w_zret d_CA_isAlikeToMember_133 rfl (by first | exact Or.inl rfl | exact Or.inr rfl) ?_
  unfold alk
  rw [n1, n2, show alk3 E c = false by unfold alk3; rw [if_neg (by omega), if_neg (by omega), if_neg (by omega), if_neg (by omega)]]
  exact ⟨rfl, rfl⟩
end CA
