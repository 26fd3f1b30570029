/-! MemberSet, one: written by wip/gen/ms1.py -/
/-- a set at place p: its edges E, the keys S of its strings -/
def hMS (h : wH) (p : Nat) (E S : List Nat) : Prop := ∃ (f : Nat → Int32) (k : Nat → Int64), h[p]? = some (.inr (1, [.ref (p + 1), .int (nI E.length), .ref (p + 2), .int (nI S.length)])) ∧ h[p + 1]? = some (.inl (0, 400, .inl f)) ∧ h[p + 2]? = some (.inl (1, 16, .inr (.inl k))) ∧ E.length ≤ 400 ∧ S.length ≤ 16 ∧ (∀ i x, E[i]? = some x → f i = nI x) ∧ ∀ i x, S[i]? = some x → k i = lN x
theorem hMS.off {h h' : wH} {p q n : Nat} {E S : List Nat} (a : hMS h p E S) (b : wOff h h' q n) (hd : p + 3 ≤ q ∨ q + n ≤ p) : hMS h' p E S := by
  obtain ⟨f, k, h1, h2, h3, h4⟩ := a
  exact ⟨f, k, by rw [b p (by omega)]; exact h1, by rw [b (p + 1) (by omega)]; exact h2, by rw [b (p + 2) (by omega)]; exact h3, h4⟩
theorem updL_at {f : Nat → Int64} {t : List Nat} {x : Nat} (hf : ∀ i y, t[i]? = some y → f i = lN y) : ∀ i y, (t ++ [x])[i]? = some y → vp_updL f t.length (lN x) i = lN y := by
  intro i y hy
  by_cases hi : i < t.length
  · rw [List.getElem?_append_left hi] at hy
    rw [pk_uLn (by omega)]
    exact hf i y hy
  · rw [List.getElem?_append_right (by omega)] at hy
    have h9 : i - t.length < 1 := (List.getElem?_eq_some_iff.mp hy).1
    have h8 : i = t.length := by omega
    subst h8
    rw [Nat.sub_self] at hy
    cases hy
    exact pk_uLs
section MS1
variable {X : wX}
set_option maxHeartbeats 4000000 in
set_option maxRecDepth 100000 in
theorem m_MS_toggle {h : wH} {p x : Nat} {E S : List Nat} (hm : hMS h p E S) (hE : ∀ y ∈ E, y < 2 ^ 31) (hx : x < 2 ^ 31) (hlen : E.length < 400) : PM X M_MS_toggleEdge 0 0 0 [.ref p, .int (nI x)] h (fun r h' => r = none ∧ hMS h' p (eTog E x) S ∧ wOff h h' p 3) := by
  obtain ⟨f, kk, hp, ha, hb, hl1, hl2, hf, hk⟩ := hm
  refine PM.at (pl := [some (.ref p), some (.int (nI x))]) rfl rfl (by simp [wle, wen]) ?_
  generalize hEN : wEm X 0 0 _ = EN
  refine w_aload_n d_MS_toggleEdge_0 rfl rfl ?_
  refine w_get d_MS_toggleEdge_1 f_MS_21 hp rfl ?_
  suffices J35 : E.getLast? ≠ some x → WP X M_MS_toggleEdge (wR 0 0 0) 0 EN 0 0 35 [some (.ref p), some (.int (nI x))] [] h by
    refine w_if_le (tgt := 35) d_MS_toggleEdge_4 rfl (fun c4 => ?_) (fun c4 => ?_)
    · have c4 : E = [] := List.length_eq_zero_iff.mp (by rcases Nat.eq_zero_or_pos E.length with z | z; exact z; exact absurd c4 (nI_nle z (by omega)))
      exact J35 (by rw [c4]; simp)
    · have c4 : 0 < E.length := Nat.pos_of_ne_zero (fun z => c4 (by rw [z]; decide))
      have hlt : E.length - 1 < E.length := by omega
      obtain ⟨y, hy⟩ : ∃ y, E[E.length - 1]? = some y := ⟨_, List.getElem?_eq_getElem hlt⟩
      have hlast : E.getLast? = some y := by rw [List.getLast?_eq_getElem?]; exact hy
      have hy31 := hE y (List.mem_of_getElem? hy)
      refine w_aload_n d_MS_toggleEdge_7 rfl rfl ?_
      refine w_get d_MS_toggleEdge_8 f_MS_11 hp rfl ?_
      refine w_aload_n d_MS_toggleEdge_11 rfl rfl ?_
      refine w_get d_MS_toggleEdge_12 f_MS_21 hp rfl ?_
      refine w_iconst (v := nI 1) d_MS_toggleEdge_15 (by decide) ?_
      refine w_isub d_MS_toggleEdge_16 ?_
      refine w_topi (y := nI (E.length - 1)) (pk_sub c4) ?_
      refine w_iald d_MS_toggleEdge_17 ha (vp_in_nI (by omega) (by omega)) ?_
      refine w_topi (y := nI y) (by rw [nI_clamp (by omega)]; exact hf _ _ hy) ?_
      refine w_iload_n d_MS_toggleEdge_18 rfl ?_
      refine w_icmp_ne (tgt := 35) d_MS_toggleEdge_19 rfl (fun c19 => ?_) (fun c19 => ?_)
      · have c19 : y ≠ x := fun z => c19 (by rw [z])
        exact J35 (by rw [hlast]; exact fun z => c19 (Option.some.inj z))
      · have c19 : y = x := (nI_eq hy31 hx).mp c19
        subst c19
        refine w_aload_n d_MS_toggleEdge_22 rfl rfl ?_
        refine w_dup d_MS_toggleEdge_23 rfl ?_
        refine w_get d_MS_toggleEdge_24 f_MS_21 hp rfl ?_
        refine w_iconst (v := nI 1) d_MS_toggleEdge_27 (by decide) ?_
        refine w_isub d_MS_toggleEdge_28 ?_
        refine w_topi (y := nI (E.length - 1)) (pk_sub c4) ?_
        refine w_put d_MS_toggleEdge_29 f_MS_21 rfl hp rfl rfl rfl ?_
        refine w_nm (fun h1 e1 => ?_)
        have hp_1 := wS_eq e1 hp
        have ha_1 := wS_ne e1 (by omega) ha
        have hb_1 := wS_ne e1 (by omega) hb
        refine w_goto (tgt := 65) d_MS_toggleEdge_32 rfl ?_
        rw [← hEN]
        refine w_vret d_MS_toggleEdge_65 rfl ?_
        first
          | (rw [eTog, if_neg hne]
             refine ⟨rfl, ⟨_, kk, ?_, ha_3, hb_3, by rw [List.length_append, List.length_singleton]; omega, hl2, ?_, hk⟩, fun k hk => ?_⟩
             · rw [List.length_append, List.length_singleton]; exact hp_3
             · rw [nI_clamp (by omega)]; exact upd_at hf
             · rw [wS_off e1 (by omega)])
          | (rw [eTog, if_pos hlast]
             refine ⟨rfl, ⟨f, kk, ?_, ha_1, hb_1, by rw [List.length_dropLast]; omega, hl2, fun i z hz => ?_, hk⟩, fun k hk => ?_⟩
             · rw [List.length_dropLast]; exact hp_1
             · rw [List.getElem?_dropLast] at hz
               split at hz
               · exact hf i z hz
               · cases hz
             · rw [wS_off e1 (by omega)])
  intro hne
  refine w_aload_n d_MS_toggleEdge_35 rfl rfl ?_
  refine w_get d_MS_toggleEdge_36 f_MS_21 hp rfl ?_
  refine w_sipush (v := nI 400) d_MS_toggleEdge_39 (by decide) ?_
  refine w_icmp_ge (tgt := 65) d_MS_toggleEdge_42 rfl (fun z => absurd z (nI_ge hlen (by omega))) (fun _ => ?_)
  refine w_aload_n d_MS_toggleEdge_45 rfl rfl ?_
  refine w_get d_MS_toggleEdge_46 f_MS_11 hp rfl ?_
  refine w_aload_n d_MS_toggleEdge_49 rfl rfl ?_
  refine w_get d_MS_toggleEdge_50 f_MS_21 hp rfl ?_
  refine w_iload_n d_MS_toggleEdge_53 rfl ?_
  refine w_iast d_MS_toggleEdge_54 ha (vp_in_nI (by omega) (by omega)) ?_
  refine w_nm (fun h2 e2 => ?_)
  have hp_2 := wS_ne e2 (by omega) hp
  have ha_2 := wS_eq e2 ha
  have hb_2 := wS_ne e2 (by omega) hb
  refine w_aload_n d_MS_toggleEdge_55 rfl rfl ?_
  refine w_dup d_MS_toggleEdge_56 rfl ?_
  refine w_get d_MS_toggleEdge_57 f_MS_21 hp_2 rfl ?_
  refine w_iconst (v := nI 1) d_MS_toggleEdge_60 (by decide) ?_
  refine w_iadd d_MS_toggleEdge_61 ?_
  refine w_topi (y := nI (E.length + 1)) (nI_add _ _) ?_
  refine w_put d_MS_toggleEdge_62 f_MS_21 rfl hp_2 rfl rfl rfl ?_
  refine w_nm (fun h3 e3 => ?_)
  have hp_3 := wS_eq e3 hp_2
  have ha_3 := wS_ne e3 (by omega) ha_2
  have hb_3 := wS_ne e3 (by omega) hb_2
  rw [← hEN]
  refine w_vret d_MS_toggleEdge_65 rfl ?_
  first
    | (rw [eTog, if_neg hne]
       refine ⟨rfl, ⟨_, kk, ?_, ha_3, hb_3, by rw [List.length_append, List.length_singleton]; omega, hl2, ?_, hk⟩, fun k hk => ?_⟩
       · rw [List.length_append, List.length_singleton]; exact hp_3
       · rw [nI_clamp (by omega)]; exact upd_at hf
       · rw [wS_off e3 (by omega), wS_off e2 (by omega)])
    | (rw [eTog, if_pos hlast]
       refine ⟨rfl, ⟨f, kk, ?_, ha_1, hb_1, by rw [List.length_dropLast]; omega, hl2, fun i z hz => ?_, hk⟩, fun k hk => ?_⟩
       · rw [List.length_dropLast]; exact hp_1
       · rw [List.getElem?_dropLast] at hz
         split at hz
         · exact hf i z hz
         · cases hz
       · rw [wS_off e3 (by omega), wS_off e2 (by omega)])
set_option maxHeartbeats 4000000 in
set_option maxRecDepth 100000 in
theorem m_MS_appendKey {h : wH} {p x : Nat} {E S : List Nat} (hm : hMS h p E S) (hlen : S.length < 16) : PM X M_MS_appendKey 0 0 0 [.ref p, .long (lN x)] h (fun r h' => r = none ∧ hMS h' p E (S ++ [x]) ∧ wOff h h' p 3) := by
  obtain ⟨f, kk, hp, ha, hb, hl1, hl2, hf, hk⟩ := hm
  refine PM.at (pl := [some (.ref p), some (.long (lN x)), none]) rfl rfl (by simp [wle, wen]) ?_
  generalize hEN : wEm X 0 0 _ = EN
  refine w_aload_n d_MS_appendKey_0 rfl rfl ?_
  refine w_get d_MS_appendKey_1 f_MS_25 hp rfl ?_
  refine w_bipush (v := nI 16) d_MS_appendKey_4 (by decide) ?_
  refine w_icmp_ge (tgt := 29) d_MS_appendKey_6 rfl (fun z => absurd z (nI_ge hlen (by omega))) (fun _ => ?_)
  refine w_aload_n d_MS_appendKey_9 rfl rfl ?_
  refine w_get d_MS_appendKey_10 f_MS_15 hp rfl ?_
  refine w_aload_n d_MS_appendKey_13 rfl rfl ?_
  refine w_get d_MS_appendKey_14 f_MS_25 hp rfl ?_
  refine w_lload_n d_MS_appendKey_17 rfl ?_
  refine w_last d_MS_appendKey_18 hb (vp_in_nI (by omega) (by omega)) ?_
  refine w_nm (fun h1 e1 => ?_)
  have hp_1 := wS_ne e1 (by omega) hp
  have ha_1 := wS_ne e1 (by omega) ha
  have hb_1 := wS_eq e1 hb
  refine w_aload_n d_MS_appendKey_19 rfl rfl ?_
  refine w_dup d_MS_appendKey_20 rfl ?_
  refine w_get d_MS_appendKey_21 f_MS_25 hp_1 rfl ?_
  refine w_iconst (v := nI 1) d_MS_appendKey_24 (by decide) ?_
  refine w_iadd d_MS_appendKey_25 ?_
  refine w_topi (y := nI (S.length + 1)) (nI_add _ _) ?_
  refine w_put d_MS_appendKey_26 f_MS_25 rfl hp_1 rfl rfl rfl ?_
  refine w_nm (fun h2 e2 => ?_)
  have hp_2 := wS_eq e2 hp_1
  have ha_2 := wS_ne e2 (by omega) ha_1
  have hb_2 := wS_ne e2 (by omega) hb_1
  rw [← hEN]
  refine w_vret d_MS_appendKey_29 rfl ?_
  refine ⟨rfl, ⟨f, _, ?_, ha_2, hb_2, hl1, by rw [List.length_append, List.length_singleton]; omega, hf, ?_⟩, fun k hk => ?_⟩
  · rw [List.length_append, List.length_singleton]; exact hp_2
  · rw [nI_clamp (by omega)]; exact updL_at hk
  · rw [wS_off e2 (by omega), wS_off e1 (by omega)]
set_option maxHeartbeats 4000000 in
set_option maxRecDepth 100000 in
theorem m_MS_clear {h : wH} {p : Nat} {E S : List Nat} (hm : hMS h p E S) : PM X M_MS_clear 0 0 0 [.ref p] h (fun r h' => r = none ∧ hMS h' p [] [] ∧ wOff h h' p 3) := by
  obtain ⟨f, kk, hp, ha, hb, hl1, hl2, hf, hk⟩ := hm
  refine PM.at (pl := [some (.ref p)]) rfl rfl (by simp [wle, wen]) ?_
  generalize hEN : wEm X 0 0 _ = EN
  refine w_aload_n d_MS_clear_0 rfl rfl ?_
  refine w_iconst (v := nI 0) d_MS_clear_1 (by decide) ?_
  refine w_put d_MS_clear_2 f_MS_21 rfl hp rfl rfl rfl ?_
  refine w_nm (fun h1 e1 => ?_)
  have hp_1 := wS_eq e1 hp
  have ha_1 := wS_ne e1 (by omega) ha
  have hb_1 := wS_ne e1 (by omega) hb
  refine w_aload_n d_MS_clear_5 rfl rfl ?_
  refine w_iconst (v := nI 0) d_MS_clear_6 (by decide) ?_
  refine w_put d_MS_clear_7 f_MS_25 rfl hp_1 rfl rfl rfl ?_
  refine w_nm (fun h2 e2 => ?_)
  have hp_2 := wS_eq e2 hp_1
  have ha_2 := wS_ne e2 (by omega) ha_1
  have hb_2 := wS_ne e2 (by omega) hb_1
  rw [← hEN]
  refine w_vret d_MS_clear_10 rfl ?_
  refine ⟨rfl, ⟨f, kk, hp_2, ha_2, hb_2, Nat.zero_le _, Nat.zero_le _, fun i x hx => by simp at hx, fun i x hx => by simp at hx⟩, fun k hk => ?_⟩
  rw [wS_off e2 (by omega), wS_off e1 (by omega)]
set_option maxHeartbeats 4000000 in
set_option maxRecDepth 100000 in
theorem m_MS_isKept_000 {h : wH} : PM X M_MS_isKept 0 0 0 [.int (nI 0), .int (nI 0), .int (nI 0)] h (fun r h' => r = some (.int (bI (eDec 0 false false))) ∧ h' = h) := by
  refine PM.at (pl := [some (.int (nI 0)), some (.int (nI 0)), some (.int (nI 0))]) rfl rfl (by simp [wle, wen]) ?_
  generalize hEN : wEm X 0 0 _ = EN
  refine w_iload_n d_MS_isKept_0 rfl ?_
  refine w_tableIn (off := 27) (tgt := 28) d_MS_isKept_1 (by decide) (by decide) (by decide) (by decide) ?_
  refine w_iload_n d_MS_isKept_28 rfl ?_
  refine w_if_ne (tgt := 36) d_MS_isKept_29 rfl (fun z => absurd (by decide) z) (fun _ => ?_)
  refine w_iload_n d_MS_isKept_32 rfl ?_
  refine w_if_eq (tgt := 40) d_MS_isKept_33 rfl (fun _ => ?_) (fun z => absurd (by decide) z)
  refine w_iconst (v := nI 0) d_MS_isKept_40 (by decide) ?_
  rw [← hEN]
  refine w_zret d_MS_isKept_41 rfl (by first | exact Or.inl rfl | exact Or.inr rfl) ?_
  exact ⟨rfl, rfl⟩
set_option maxHeartbeats 4000000 in
set_option maxRecDepth 100000 in
theorem m_MS_isKept_001 {h : wH} : PM X M_MS_isKept 0 0 0 [.int (nI 0), .int (nI 0), .int (nI 1)] h (fun r h' => r = some (.int (bI (eDec 1 false false))) ∧ h' = h) := by
  refine PM.at (pl := [some (.int (nI 0)), some (.int (nI 0)), some (.int (nI 1))]) rfl rfl (by simp [wle, wen]) ?_
  generalize hEN : wEm X 0 0 _ = EN
  refine w_iload_n d_MS_isKept_0 rfl ?_
  refine w_tableIn (off := 41) (tgt := 42) d_MS_isKept_1 (by decide) (by decide) (by decide) (by decide) ?_
  refine w_iload_n d_MS_isKept_42 rfl ?_
  refine w_if_eq (tgt := 54) d_MS_isKept_43 rfl (fun _ => ?_) (fun z => absurd (by decide) z)
  refine w_iconst (v := nI 0) d_MS_isKept_54 (by decide) ?_
  rw [← hEN]
  refine w_zret d_MS_isKept_55 rfl (by first | exact Or.inl rfl | exact Or.inr rfl) ?_
  exact ⟨rfl, rfl⟩
set_option maxHeartbeats 4000000 in
set_option maxRecDepth 100000 in
theorem m_MS_isKept_002 {h : wH} : PM X M_MS_isKept 0 0 0 [.int (nI 0), .int (nI 0), .int (nI 2)] h (fun r h' => r = some (.int (bI (eDec 2 false false))) ∧ h' = h) := by
  refine PM.at (pl := [some (.int (nI 0)), some (.int (nI 0)), some (.int (nI 2))]) rfl rfl (by simp [wle, wen]) ?_
  generalize hEN : wEm X 0 0 _ = EN
  refine w_iload_n d_MS_isKept_0 rfl ?_
  refine w_tableIn (off := 55) (tgt := 56) d_MS_isKept_1 (by decide) (by decide) (by decide) (by decide) ?_
  refine w_iload_n d_MS_isKept_56 rfl ?_
  refine w_if_eq (tgt := 68) d_MS_isKept_57 rfl (fun _ => ?_) (fun z => absurd (by decide) z)
  refine w_iconst (v := nI 0) d_MS_isKept_68 (by decide) ?_
  rw [← hEN]
  refine w_zret d_MS_isKept_69 rfl (by first | exact Or.inl rfl | exact Or.inr rfl) ?_
  exact ⟨rfl, rfl⟩
set_option maxHeartbeats 4000000 in
set_option maxRecDepth 100000 in
theorem m_MS_isKept_003 {h : wH} : PM X M_MS_isKept 0 0 0 [.int (nI 0), .int (nI 0), .int (nI 3)] h (fun r h' => r = some (.int (bI (eDec 3 false false))) ∧ h' = h) := by
  refine PM.at (pl := [some (.int (nI 0)), some (.int (nI 0)), some (.int (nI 3))]) rfl rfl (by simp [wle, wen]) ?_
  generalize hEN : wEm X 0 0 _ = EN
  refine w_iload_n d_MS_isKept_0 rfl ?_
  refine w_tableOut (tgt := 70) d_MS_isKept_1 (by decide) (by decide) ?_
  refine w_iload_n d_MS_isKept_70 rfl ?_
  refine w_iload_n d_MS_isKept_71 rfl ?_
  refine w_icmp_eq (tgt := 79) d_MS_isKept_72 rfl (fun _ => ?_) (fun z => absurd (by decide) z)
  refine w_iconst (v := nI 0) d_MS_isKept_79 (by decide) ?_
  rw [← hEN]
  refine w_zret d_MS_isKept_80 rfl (by first | exact Or.inl rfl | exact Or.inr rfl) ?_
  exact ⟨rfl, rfl⟩
set_option maxHeartbeats 4000000 in
set_option maxRecDepth 100000 in
theorem m_MS_isKept_010 {h : wH} : PM X M_MS_isKept 0 0 0 [.int (nI 0), .int (nI 1), .int (nI 0)] h (fun r h' => r = some (.int (bI (eDec 0 false true))) ∧ h' = h) := by
  refine PM.at (pl := [some (.int (nI 0)), some (.int (nI 1)), some (.int (nI 0))]) rfl rfl (by simp [wle, wen]) ?_
  generalize hEN : wEm X 0 0 _ = EN
  refine w_iload_n d_MS_isKept_0 rfl ?_
  refine w_tableIn (off := 27) (tgt := 28) d_MS_isKept_1 (by decide) (by decide) (by decide) (by decide) ?_
  refine w_iload_n d_MS_isKept_28 rfl ?_
  refine w_if_ne (tgt := 36) d_MS_isKept_29 rfl (fun z => absurd (by decide) z) (fun _ => ?_)
  refine w_iload_n d_MS_isKept_32 rfl ?_
  refine w_if_eq (tgt := 40) d_MS_isKept_33 rfl (fun z => absurd z (by decide)) (fun _ => ?_)
  refine w_iconst (v := nI 1) d_MS_isKept_36 (by decide) ?_
  refine w_goto (tgt := 41) d_MS_isKept_37 rfl ?_
  rw [← hEN]
  refine w_zret d_MS_isKept_41 rfl (by first | exact Or.inl rfl | exact Or.inr rfl) ?_
  exact ⟨rfl, rfl⟩
set_option maxHeartbeats 4000000 in
set_option maxRecDepth 100000 in
theorem m_MS_isKept_011 {h : wH} : PM X M_MS_isKept 0 0 0 [.int (nI 0), .int (nI 1), .int (nI 1)] h (fun r h' => r = some (.int (bI (eDec 1 false true))) ∧ h' = h) := by
  refine PM.at (pl := [some (.int (nI 0)), some (.int (nI 1)), some (.int (nI 1))]) rfl rfl (by simp [wle, wen]) ?_
  generalize hEN : wEm X 0 0 _ = EN
  refine w_iload_n d_MS_isKept_0 rfl ?_
  refine w_tableIn (off := 41) (tgt := 42) d_MS_isKept_1 (by decide) (by decide) (by decide) (by decide) ?_
  refine w_iload_n d_MS_isKept_42 rfl ?_
  refine w_if_eq (tgt := 54) d_MS_isKept_43 rfl (fun _ => ?_) (fun z => absurd (by decide) z)
  refine w_iconst (v := nI 0) d_MS_isKept_54 (by decide) ?_
  rw [← hEN]
  refine w_zret d_MS_isKept_55 rfl (by first | exact Or.inl rfl | exact Or.inr rfl) ?_
  exact ⟨rfl, rfl⟩
set_option maxHeartbeats 4000000 in
set_option maxRecDepth 100000 in
theorem m_MS_isKept_012 {h : wH} : PM X M_MS_isKept 0 0 0 [.int (nI 0), .int (nI 1), .int (nI 2)] h (fun r h' => r = some (.int (bI (eDec 2 false true))) ∧ h' = h) := by
  refine PM.at (pl := [some (.int (nI 0)), some (.int (nI 1)), some (.int (nI 2))]) rfl rfl (by simp [wle, wen]) ?_
  generalize hEN : wEm X 0 0 _ = EN
  refine w_iload_n d_MS_isKept_0 rfl ?_
  refine w_tableIn (off := 55) (tgt := 56) d_MS_isKept_1 (by decide) (by decide) (by decide) (by decide) ?_
  refine w_iload_n d_MS_isKept_56 rfl ?_
  refine w_if_eq (tgt := 68) d_MS_isKept_57 rfl (fun _ => ?_) (fun z => absurd (by decide) z)
  refine w_iconst (v := nI 0) d_MS_isKept_68 (by decide) ?_
  rw [← hEN]
  refine w_zret d_MS_isKept_69 rfl (by first | exact Or.inl rfl | exact Or.inr rfl) ?_
  exact ⟨rfl, rfl⟩
set_option maxHeartbeats 4000000 in
set_option maxRecDepth 100000 in
theorem m_MS_isKept_013 {h : wH} : PM X M_MS_isKept 0 0 0 [.int (nI 0), .int (nI 1), .int (nI 3)] h (fun r h' => r = some (.int (bI (eDec 3 false true))) ∧ h' = h) := by
  refine PM.at (pl := [some (.int (nI 0)), some (.int (nI 1)), some (.int (nI 3))]) rfl rfl (by simp [wle, wen]) ?_
  generalize hEN : wEm X 0 0 _ = EN
  refine w_iload_n d_MS_isKept_0 rfl ?_
  refine w_tableOut (tgt := 70) d_MS_isKept_1 (by decide) (by decide) ?_
  refine w_iload_n d_MS_isKept_70 rfl ?_
  refine w_iload_n d_MS_isKept_71 rfl ?_
  refine w_icmp_eq (tgt := 79) d_MS_isKept_72 rfl (fun z => absurd z (by decide)) (fun _ => ?_)
  refine w_iconst (v := nI 1) d_MS_isKept_75 (by decide) ?_
  refine w_goto (tgt := 80) d_MS_isKept_76 rfl ?_
  rw [← hEN]
  refine w_zret d_MS_isKept_80 rfl (by first | exact Or.inl rfl | exact Or.inr rfl) ?_
  exact ⟨rfl, rfl⟩
set_option maxHeartbeats 4000000 in
set_option maxRecDepth 100000 in
theorem m_MS_isKept_100 {h : wH} : PM X M_MS_isKept 0 0 0 [.int (nI 1), .int (nI 0), .int (nI 0)] h (fun r h' => r = some (.int (bI (eDec 0 true false))) ∧ h' = h) := by
  refine PM.at (pl := [some (.int (nI 1)), some (.int (nI 0)), some (.int (nI 0))]) rfl rfl (by simp [wle, wen]) ?_
  generalize hEN : wEm X 0 0 _ = EN
  refine w_iload_n d_MS_isKept_0 rfl ?_
  refine w_tableIn (off := 27) (tgt := 28) d_MS_isKept_1 (by decide) (by decide) (by decide) (by decide) ?_
  refine w_iload_n d_MS_isKept_28 rfl ?_
  refine w_if_ne (tgt := 36) d_MS_isKept_29 rfl (fun _ => ?_) (fun z => absurd z (by decide))
  refine w_iconst (v := nI 1) d_MS_isKept_36 (by decide) ?_
  refine w_goto (tgt := 41) d_MS_isKept_37 rfl ?_
  rw [← hEN]
  refine w_zret d_MS_isKept_41 rfl (by first | exact Or.inl rfl | exact Or.inr rfl) ?_
  exact ⟨rfl, rfl⟩
set_option maxHeartbeats 4000000 in
set_option maxRecDepth 100000 in
theorem m_MS_isKept_101 {h : wH} : PM X M_MS_isKept 0 0 0 [.int (nI 1), .int (nI 0), .int (nI 1)] h (fun r h' => r = some (.int (bI (eDec 1 true false))) ∧ h' = h) := by
  refine PM.at (pl := [some (.int (nI 1)), some (.int (nI 0)), some (.int (nI 1))]) rfl rfl (by simp [wle, wen]) ?_
  generalize hEN : wEm X 0 0 _ = EN
  refine w_iload_n d_MS_isKept_0 rfl ?_
  refine w_tableIn (off := 41) (tgt := 42) d_MS_isKept_1 (by decide) (by decide) (by decide) (by decide) ?_
  refine w_iload_n d_MS_isKept_42 rfl ?_
  refine w_if_eq (tgt := 54) d_MS_isKept_43 rfl (fun z => absurd z (by decide)) (fun _ => ?_)
  refine w_iload_n d_MS_isKept_46 rfl ?_
  refine w_if_eq (tgt := 54) d_MS_isKept_47 rfl (fun _ => ?_) (fun z => absurd (by decide) z)
  refine w_iconst (v := nI 0) d_MS_isKept_54 (by decide) ?_
  rw [← hEN]
  refine w_zret d_MS_isKept_55 rfl (by first | exact Or.inl rfl | exact Or.inr rfl) ?_
  exact ⟨rfl, rfl⟩
set_option maxHeartbeats 4000000 in
set_option maxRecDepth 100000 in
theorem m_MS_isKept_102 {h : wH} : PM X M_MS_isKept 0 0 0 [.int (nI 1), .int (nI 0), .int (nI 2)] h (fun r h' => r = some (.int (bI (eDec 2 true false))) ∧ h' = h) := by
  refine PM.at (pl := [some (.int (nI 1)), some (.int (nI 0)), some (.int (nI 2))]) rfl rfl (by simp [wle, wen]) ?_
  generalize hEN : wEm X 0 0 _ = EN
  refine w_iload_n d_MS_isKept_0 rfl ?_
  refine w_tableIn (off := 55) (tgt := 56) d_MS_isKept_1 (by decide) (by decide) (by decide) (by decide) ?_
  refine w_iload_n d_MS_isKept_56 rfl ?_
  refine w_if_eq (tgt := 68) d_MS_isKept_57 rfl (fun z => absurd z (by decide)) (fun _ => ?_)
  refine w_iload_n d_MS_isKept_60 rfl ?_
  refine w_if_ne (tgt := 68) d_MS_isKept_61 rfl (fun z => absurd (by decide) z) (fun _ => ?_)
  refine w_iconst (v := nI 1) d_MS_isKept_64 (by decide) ?_
  refine w_goto (tgt := 69) d_MS_isKept_65 rfl ?_
  rw [← hEN]
  refine w_zret d_MS_isKept_69 rfl (by first | exact Or.inl rfl | exact Or.inr rfl) ?_
  exact ⟨rfl, rfl⟩
set_option maxHeartbeats 4000000 in
set_option maxRecDepth 100000 in
theorem m_MS_isKept_103 {h : wH} : PM X M_MS_isKept 0 0 0 [.int (nI 1), .int (nI 0), .int (nI 3)] h (fun r h' => r = some (.int (bI (eDec 3 true false))) ∧ h' = h) := by
  refine PM.at (pl := [some (.int (nI 1)), some (.int (nI 0)), some (.int (nI 3))]) rfl rfl (by simp [wle, wen]) ?_
  generalize hEN : wEm X 0 0 _ = EN
  refine w_iload_n d_MS_isKept_0 rfl ?_
  refine w_tableOut (tgt := 70) d_MS_isKept_1 (by decide) (by decide) ?_
  refine w_iload_n d_MS_isKept_70 rfl ?_
  refine w_iload_n d_MS_isKept_71 rfl ?_
  refine w_icmp_eq (tgt := 79) d_MS_isKept_72 rfl (fun z => absurd z (by decide)) (fun _ => ?_)
  refine w_iconst (v := nI 1) d_MS_isKept_75 (by decide) ?_
  refine w_goto (tgt := 80) d_MS_isKept_76 rfl ?_
  rw [← hEN]
  refine w_zret d_MS_isKept_80 rfl (by first | exact Or.inl rfl | exact Or.inr rfl) ?_
  exact ⟨rfl, rfl⟩
set_option maxHeartbeats 4000000 in
set_option maxRecDepth 100000 in
theorem m_MS_isKept_110 {h : wH} : PM X M_MS_isKept 0 0 0 [.int (nI 1), .int (nI 1), .int (nI 0)] h (fun r h' => r = some (.int (bI (eDec 0 true true))) ∧ h' = h) := by
  refine PM.at (pl := [some (.int (nI 1)), some (.int (nI 1)), some (.int (nI 0))]) rfl rfl (by simp [wle, wen]) ?_
  generalize hEN : wEm X 0 0 _ = EN
  refine w_iload_n d_MS_isKept_0 rfl ?_
  refine w_tableIn (off := 27) (tgt := 28) d_MS_isKept_1 (by decide) (by decide) (by decide) (by decide) ?_
  refine w_iload_n d_MS_isKept_28 rfl ?_
  refine w_if_ne (tgt := 36) d_MS_isKept_29 rfl (fun _ => ?_) (fun z => absurd z (by decide))
  refine w_iconst (v := nI 1) d_MS_isKept_36 (by decide) ?_
  refine w_goto (tgt := 41) d_MS_isKept_37 rfl ?_
  rw [← hEN]
  refine w_zret d_MS_isKept_41 rfl (by first | exact Or.inl rfl | exact Or.inr rfl) ?_
  exact ⟨rfl, rfl⟩
set_option maxHeartbeats 4000000 in
set_option maxRecDepth 100000 in
theorem m_MS_isKept_111 {h : wH} : PM X M_MS_isKept 0 0 0 [.int (nI 1), .int (nI 1), .int (nI 1)] h (fun r h' => r = some (.int (bI (eDec 1 true true))) ∧ h' = h) := by
  refine PM.at (pl := [some (.int (nI 1)), some (.int (nI 1)), some (.int (nI 1))]) rfl rfl (by simp [wle, wen]) ?_
  generalize hEN : wEm X 0 0 _ = EN
  refine w_iload_n d_MS_isKept_0 rfl ?_
  refine w_tableIn (off := 41) (tgt := 42) d_MS_isKept_1 (by decide) (by decide) (by decide) (by decide) ?_
  refine w_iload_n d_MS_isKept_42 rfl ?_
  refine w_if_eq (tgt := 54) d_MS_isKept_43 rfl (fun z => absurd z (by decide)) (fun _ => ?_)
  refine w_iload_n d_MS_isKept_46 rfl ?_
  refine w_if_eq (tgt := 54) d_MS_isKept_47 rfl (fun z => absurd z (by decide)) (fun _ => ?_)
  refine w_iconst (v := nI 1) d_MS_isKept_50 (by decide) ?_
  refine w_goto (tgt := 55) d_MS_isKept_51 rfl ?_
  rw [← hEN]
  refine w_zret d_MS_isKept_55 rfl (by first | exact Or.inl rfl | exact Or.inr rfl) ?_
  exact ⟨rfl, rfl⟩
set_option maxHeartbeats 4000000 in
set_option maxRecDepth 100000 in
theorem m_MS_isKept_112 {h : wH} : PM X M_MS_isKept 0 0 0 [.int (nI 1), .int (nI 1), .int (nI 2)] h (fun r h' => r = some (.int (bI (eDec 2 true true))) ∧ h' = h) := by
  refine PM.at (pl := [some (.int (nI 1)), some (.int (nI 1)), some (.int (nI 2))]) rfl rfl (by simp [wle, wen]) ?_
  generalize hEN : wEm X 0 0 _ = EN
  refine w_iload_n d_MS_isKept_0 rfl ?_
  refine w_tableIn (off := 55) (tgt := 56) d_MS_isKept_1 (by decide) (by decide) (by decide) (by decide) ?_
  refine w_iload_n d_MS_isKept_56 rfl ?_
  refine w_if_eq (tgt := 68) d_MS_isKept_57 rfl (fun z => absurd z (by decide)) (fun _ => ?_)
  refine w_iload_n d_MS_isKept_60 rfl ?_
  refine w_if_ne (tgt := 68) d_MS_isKept_61 rfl (fun _ => ?_) (fun z => absurd z (by decide))
  refine w_iconst (v := nI 0) d_MS_isKept_68 (by decide) ?_
  rw [← hEN]
  refine w_zret d_MS_isKept_69 rfl (by first | exact Or.inl rfl | exact Or.inr rfl) ?_
  exact ⟨rfl, rfl⟩
set_option maxHeartbeats 4000000 in
set_option maxRecDepth 100000 in
theorem m_MS_isKept_113 {h : wH} : PM X M_MS_isKept 0 0 0 [.int (nI 1), .int (nI 1), .int (nI 3)] h (fun r h' => r = some (.int (bI (eDec 3 true true))) ∧ h' = h) := by
  refine PM.at (pl := [some (.int (nI 1)), some (.int (nI 1)), some (.int (nI 3))]) rfl rfl (by simp [wle, wen]) ?_
  generalize hEN : wEm X 0 0 _ = EN
  refine w_iload_n d_MS_isKept_0 rfl ?_
  refine w_tableOut (tgt := 70) d_MS_isKept_1 (by decide) (by decide) ?_
  refine w_iload_n d_MS_isKept_70 rfl ?_
  refine w_iload_n d_MS_isKept_71 rfl ?_
  refine w_icmp_eq (tgt := 79) d_MS_isKept_72 rfl (fun _ => ?_) (fun z => absurd (by decide) z)
  refine w_iconst (v := nI 0) d_MS_isKept_79 (by decide) ?_
  rw [← hEN]
  refine w_zret d_MS_isKept_80 rfl (by first | exact Or.inl rfl | exact Or.inr rfl) ?_
  exact ⟨rfl, rfl⟩
theorem m_MS_isKept {h : wH} {a b : Bool} {how : Nat} (hh : how ≤ 3) : PM X M_MS_isKept 0 0 0 [.int (bI a), .int (bI b), .int (nI how)] h (fun r h' => r = some (.int (bI (eDec how a b))) ∧ h' = h) := by
  rcases (show how = 0 ∨ how = 1 ∨ how = 2 ∨ how = 3 by omega) with rfl | rfl | rfl | rfl <;> cases a <;> cases b
  · exact m_MS_isKept_000
  · exact m_MS_isKept_010
  · exact m_MS_isKept_100
  · exact m_MS_isKept_110
  · exact m_MS_isKept_001
  · exact m_MS_isKept_011
  · exact m_MS_isKept_101
  · exact m_MS_isKept_111
  · exact m_MS_isKept_002
  · exact m_MS_isKept_012
  · exact m_MS_isKept_102
  · exact m_MS_isKept_112
  · exact m_MS_isKept_003
  · exact m_MS_isKept_013
  · exact m_MS_isKept_103
  · exact m_MS_isKept_113
set_option maxHeartbeats 4000000 in
set_option maxRecDepth 100000 in
theorem m_MS_holdsCode {h : wH} {p c : Nat} {E S : List Nat} (hm : hMS h p E S) (hA : eAsc E) (hE : ∀ y ∈ E, y < 2 ^ 31) (hc : c < 2 ^ 31) : PM X M_MS_holdsCode 0 0 0 [.ref p, .int (nI c)] h (fun r h' => r = some (.int (bI (eMem E c))) ∧ h' = h) := by
  obtain ⟨f, kk, hp, ha, hb, hl1, hl2, hf, hk⟩ := hm
  refine PM.at (pl := [some (.ref p), some (.int (nI c)), none, none, none, none]) rfl rfl (by simp [wle, wen]) ?_
  generalize hEN : wEm X 0 0 _ = EN
  have hcn := eCnt_le E c
  have END : ∀ (low high s : Nat), (low = eCnt E c) → WP X M_MS_holdsCode (wR 0 0 0) 0 EN 0 0 58 [some (.ref p), some (.int (nI c)), some (.int (nI low)), some (.int (nI high)), some (.int (nI s)), none] [] h := by
    intro low high s he
    refine w_iload_n d_MS_holdsCode_58 rfl ?_
    refine w_iconst (v := nI 1) d_MS_holdsCode_59 (by decide) ?_
    refine w_iand d_MS_holdsCode_60 ?_
    refine w_topi (y := nI (low % 2 ^ 1)) (pk_andN (m := nI 1) (by omega) 1 (by decide)) ?_
    refine w_iconst (v := nI 1) d_MS_holdsCode_61 (by decide) ?_
    refine w_icmp_ne (tgt := 69) d_MS_holdsCode_62 rfl (fun c62 => ?_) (fun c62 => ?_)
    · have c62 : ¬ low % 2 = 1 := fun z => c62 (by rw [show 2 ^ 1 = 2 from rfl, z])
      refine w_iconst (v := nI 0) d_MS_holdsCode_69 (by decide) ?_
      rw [← hEN]
      refine w_zret d_MS_holdsCode_70 rfl (by first | exact Or.inl rfl | exact Or.inr rfl) ?_
      refine ⟨?_, rfl⟩
      unfold eMem
      rw [← he]
      first | (rw [c62]; rfl) | (rw [show low % 2 = 0 by omega]; rfl)
    · have c62 : low % 2 = 1 := (nI_eq (by omega) (by omega)).mp c62
      refine w_iconst (v := nI 1) d_MS_holdsCode_65 (by decide) ?_
      refine w_goto (tgt := 70) d_MS_holdsCode_66 rfl ?_
      rw [← hEN]
      refine w_zret d_MS_holdsCode_70 rfl (by first | exact Or.inl rfl | exact Or.inr rfl) ?_
      refine ⟨?_, rfl⟩
      unfold eMem
      rw [← he]
      first | (rw [c62]; rfl) | (rw [show low % 2 = 0 by omega]; rfl)
  have L : ∀ (n : Nat) (low high s : Nat), (high - low < n) → (low ≤ eCnt E c) → (eCnt E c ≤ high) → (high ≤ E.length) → (s + (high - low) ≤ 400) → WP X M_MS_holdsCode (wR 0 0 0) 0 EN 0 0 10 [some (.ref p), some (.int (nI c)), some (.int (nI low)), some (.int (nI high)), some (.int (nI s)), none] [] h := by
    intro n
    induction n with
    | zero => intro low high s h1 h2 h3 h4 h5; omega
    | succ n ih =>
      intro low high s h1 h2 h3 h4 h5
      refine w_iload d_MS_holdsCode_10 rfl ?_
      refine w_sipush (v := nI 400) d_MS_holdsCode_12 (by decide) ?_
      refine w_icmp_ge (tgt := 58) d_MS_holdsCode_15 rfl (fun c15 => ?_) (fun c15 => ?_)
      · have c15 := (nI_leI (a := 400) (b := s) (by omega) (by omega)).mp c15
        refine w_le (pl' := [some (.ref p), some (.int (nI c)), some (.int (nI low)), some (.int (nI high)), some (.int (nI s)), none]) ⟨rfl, rfl, rfl, rfl, rfl, trivial⟩ ?_
        exact END low high s (by omega)
      · have c15 : s < 400 := Nat.not_le.mp (fun z => c15 ((nI_leI (a := 400) (b := s) (by omega) (by omega)).mpr z))
        refine w_iload_n d_MS_holdsCode_18 rfl ?_
        refine w_iload_n d_MS_holdsCode_19 rfl ?_
        refine w_icmp_ge (tgt := 58) d_MS_holdsCode_20 rfl (fun c20 => ?_) (fun c20 => ?_)
        · have c20 := (nI_leI (a := high) (b := low) (by omega) (by omega)).mp c20
          refine w_le (pl' := [some (.ref p), some (.int (nI c)), some (.int (nI low)), some (.int (nI high)), some (.int (nI s)), none]) ⟨rfl, rfl, rfl, rfl, rfl, trivial⟩ ?_
          exact END low high s (by omega)
        · have c20 : low < high := Nat.not_le.mp (fun z => c20 ((nI_leI (a := high) (b := low) (by omega) (by omega)).mpr z))
          obtain ⟨mid, hmid⟩ : ∃ mid, mid = (low + high) / 2 := ⟨_, rfl⟩
          have hm1 : low ≤ mid := by omega
          have hm2 : mid < high := by omega
          obtain ⟨y, hy⟩ : ∃ y, E[mid]? = some y := ⟨_, List.getElem?_eq_getElem (by omega)⟩
          have hy31 := hE y (List.mem_of_getElem? hy)
          have hiff := eCnt_iff hA hy (c := c)
          refine w_iload_n d_MS_holdsCode_23 rfl ?_
          refine w_iload_n d_MS_holdsCode_24 rfl ?_
          refine w_iadd d_MS_holdsCode_25 ?_
          refine w_topi (y := nI (low + high)) (nI_add _ _) ?_
          refine w_iconst (v := nI 2) d_MS_holdsCode_26 (by decide) ?_
          refine w_idiv d_MS_holdsCode_27 (by decide) ?_
          refine w_topi (y := nI mid) (by rw [hmid]; exact pk_div (by omega) (by omega) (by omega)) ?_
          refine w_istore d_MS_holdsCode_28 (by decide) ?_
          refine w_aload_n d_MS_holdsCode_30 rfl rfl ?_
          refine w_get d_MS_holdsCode_31 f_MS_11 hp rfl ?_
          refine w_iload d_MS_holdsCode_34 rfl ?_
          refine w_iald d_MS_holdsCode_36 ha (vp_in_nI (by omega) (by omega)) ?_
          refine w_topi (y := nI y) (by rw [nI_clamp (by omega)]; exact hf _ _ hy) ?_
          refine w_iload_n d_MS_holdsCode_37 rfl ?_
          refine w_icmp_gt (tgt := 49) d_MS_holdsCode_38 rfl (fun c38 => ?_) (fun c38 => ?_)
          · have c38 : ¬ mid < eCnt E c := fun z => absurd ((nI_ltI hc hy31).mp c38) (by have := hiff.mpr z; omega)
            refine w_iload d_MS_holdsCode_49 rfl ?_
            refine w_istore_n d_MS_holdsCode_51 (by decide) ?_
            refine w_iinc (v := nI (s + 1)) d_MS_holdsCode_52 rfl (nI_1 _) (by decide) ?_
            refine w_goto (tgt := 10) d_MS_holdsCode_55 rfl ?_
            refine w_le (pl' := [some (.ref p), some (.int (nI c)), some (.int (nI low)), some (.int (nI mid)), some (.int (nI (s + 1))), none]) ⟨rfl, rfl, rfl, rfl, rfl, trivial⟩ ?_
            exact ih low mid (s + 1) (by omega) h2 (by omega) (by omega) (by omega)
          · have c38 : mid < eCnt E c := hiff.mp (by have : ¬ c < y := fun z => c38 ((nI_ltI hc hy31).mpr z); omega)
            refine w_iload d_MS_holdsCode_41 rfl ?_
            refine w_iconst (v := nI 1) d_MS_holdsCode_43 (by decide) ?_
            refine w_iadd d_MS_holdsCode_44 ?_
            refine w_topi (y := nI (mid + 1)) (nI_add _ _) ?_
            refine w_istore_n d_MS_holdsCode_45 (by decide) ?_
            refine w_goto (tgt := 52) d_MS_holdsCode_46 rfl ?_
            refine w_iinc (v := nI (s + 1)) d_MS_holdsCode_52 rfl (nI_1 _) (by decide) ?_
            refine w_goto (tgt := 10) d_MS_holdsCode_55 rfl ?_
            refine w_le (pl' := [some (.ref p), some (.int (nI c)), some (.int (nI (mid + 1))), some (.int (nI high)), some (.int (nI (s + 1))), none]) ⟨rfl, rfl, rfl, rfl, rfl, trivial⟩ ?_
            exact ih (mid + 1) high (s + 1) (by omega) (by omega) h3 h4 (by omega)
  refine w_iconst (v := nI 0) d_MS_holdsCode_0 (by decide) ?_
  refine w_istore_n d_MS_holdsCode_1 (by decide) ?_
  refine w_aload_n d_MS_holdsCode_2 rfl rfl ?_
  refine w_get d_MS_holdsCode_3 f_MS_21 hp rfl ?_
  refine w_istore_n d_MS_holdsCode_6 (by decide) ?_
  refine w_iconst (v := nI 0) d_MS_holdsCode_7 (by decide) ?_
  refine w_istore d_MS_holdsCode_8 (by decide) ?_
  exact L (E.length + 1) 0 E.length 0 (by omega) (Nat.zero_le _) hcn (Nat.le_refl _) (by omega)
set_option maxHeartbeats 4000000 in
set_option maxRecDepth 100000 in
theorem m_MS_holdsString {h : wH} {p c : Nat} {E S : List Nat} (hm : hMS h p E S) (hE : ∀ y ∈ S, y < 2 ^ 63) (hc : c < 2 ^ 63) : PM X M_MS_holdsString 0 0 0 [.ref p, .long (lN c)] h (fun r h' => r = some (.int (bI (decide (c ∈ S)))) ∧ h' = h) := by
  obtain ⟨f, kk, hp, ha, hb, hl1, hl2, hf, hk⟩ := hm
  refine PM.at (pl := [some (.ref p), some (.long (lN c)), none, none]) rfl rfl (by simp [wle, wen]) ?_
  generalize hEN : wEm X 0 0 _ = EN
  have L : ∀ (n : Nat) (i : Nat), (S.length - i < n) → (i ≤ S.length) → (∀ j y, j < i → S[j]? = some y → y ≠ c) → WP X M_MS_holdsString (wR 0 0 0) 0 EN 0 0 2 [some (.ref p), some (.long (lN c)), none, some (.int (nI i))] [] h := by
    intro n
    induction n with
    | zero => intro i h1 h2 h3; omega
    | succ n ih =>
      intro i h1 h2 h3
      refine w_iload_n d_MS_holdsString_2 rfl ?_
      refine w_aload_n d_MS_holdsString_3 rfl rfl ?_
      refine w_get d_MS_holdsString_4 f_MS_25 hp rfl ?_
      refine w_icmp_ge (tgt := 29) d_MS_holdsString_7 rfl (fun c7 => ?_) (fun c7 => ?_)
      · have c7 := (nI_leI (a := S.length) (b := i) (by omega) (by omega)).mp c7
        refine w_iconst (v := nI 0) d_MS_holdsString_29 (by decide) ?_
        rw [← hEN]
        refine w_zret d_MS_holdsString_30 rfl (by first | exact Or.inl rfl | exact Or.inr rfl) ?_
        refine ⟨?_, rfl⟩
        rw [decide_eq_false (fun z => by
          obtain ⟨j, hj⟩ := List.getElem?_of_mem z
          exact h3 j c (by have := (List.getElem?_eq_some_iff.mp hj).1; omega) hj rfl)]
        rfl
      · have c7 : i < S.length := Nat.not_le.mp (fun z => c7 ((nI_leI (a := S.length) (b := i) (by omega) (by omega)).mpr z))
        obtain ⟨y, hy⟩ : ∃ y, S[i]? = some y := ⟨_, List.getElem?_eq_getElem c7⟩
        have hy63 := hE y (List.mem_of_getElem? hy)
        refine w_aload_n d_MS_holdsString_10 rfl rfl ?_
        refine w_get d_MS_holdsString_11 f_MS_15 hp rfl ?_
        refine w_iload_n d_MS_holdsString_14 rfl ?_
        refine w_lald d_MS_holdsString_15 hb (vp_in_nI (by omega) (by omega)) ?_
        refine w_topl (y := lN y) (by rw [nI_clamp (by omega)]; exact hk _ _ hy) ?_
        refine w_lload_n d_MS_holdsString_16 rfl ?_
        refine w_lcmp d_MS_holdsString_17 ?_
        refine w_if_ne (tgt := 23) d_MS_holdsString_18 rfl (fun c18 => ?_) (fun c18 => ?_)
        · have c18 : y ≠ c := fun z => c18 (by rw [z]; exact lg_cmp_self _)
          refine w_iinc (v := nI (i + 1)) d_MS_holdsString_23 rfl (nI_1 _) (by decide) ?_
          refine w_goto (tgt := 2) d_MS_holdsString_26 rfl ?_
          exact ih (i + 1) (by omega) (by omega) (fun j z hj hz => by
            by_cases hji : j = i
            · subst hji; rw [hy] at hz; cases hz; exact c18
            · exact h3 j z (by omega) hz)
        · have c18 : y = c := (pk_lEQ hy63 hc).mp (lg_cmp_0 c18)
          refine w_iconst (v := nI 1) d_MS_holdsString_21 (by decide) ?_
          rw [← hEN]
          refine w_zret d_MS_holdsString_22 rfl (by first | exact Or.inl rfl | exact Or.inr rfl) ?_
          refine ⟨?_, rfl⟩
          rw [decide_eq_true (c18 ▸ List.mem_of_getElem? hy)]
          rfl
  refine w_iconst (v := nI 0) d_MS_holdsString_0 (by decide) ?_
  refine w_istore_n d_MS_holdsString_1 (by decide) ?_
  exact L (S.length + 1) 0 (by omega) (Nat.zero_le _) (fun j y hj => by omega)
set_option maxHeartbeats 4000000 in
set_option maxRecDepth 100000 in
theorem m_MS_codeCount {h : wH} {p : Nat} {E S : List Nat} (hm : hMS h p E S) (hA : eAsc E) : PM X M_MS_codeCount 0 0 0 [.ref p] h (fun r h' => r = some (.int (nI (eSize E))) ∧ h' = h) := by
  obtain ⟨f, kk, hp, ha, hb, hl1, hl2, hf, hk⟩ := hm
  refine PM.at (pl := [some (.ref p), none, none]) rfl rfl (by simp [wle, wen]) ?_
  generalize hEN : wEm X 0 0 _ = EN
  have L : ∀ (n : Nat) (i tot : Nat), (E.length - i < n) → (i ≤ E.length + 1) → (tot + eSize (E.drop i) = eSize E) → WP X M_MS_codeCount (wR 0 0 0) 0 EN 0 0 4 [some (.ref p), some (.int (nI tot)), some (.int (nI i))] [] h := by
    intro n
    induction n with
    | zero => intro i tot h1 h2 h3; omega
    | succ n ih =>
      intro i tot h1 h2 h3
      refine w_iload_n d_MS_codeCount_4 rfl ?_
      refine w_iconst (v := nI 1) d_MS_codeCount_5 (by decide) ?_
      refine w_iadd d_MS_codeCount_6 ?_
      refine w_topi (y := nI (i + 1)) (nI_add _ _) ?_
      refine w_aload_n d_MS_codeCount_7 rfl rfl ?_
      refine w_get d_MS_codeCount_8 f_MS_21 hp rfl ?_
      refine w_icmp_ge (tgt := 38) d_MS_codeCount_11 rfl (fun c11 => ?_) (fun c11 => ?_)
      · have c11 := (nI_leI (a := E.length) (b := i + 1) (by omega) (by omega)).mp c11
        refine w_iload_n d_MS_codeCount_38 rfl ?_
        rw [← hEN]
        refine w_iret d_MS_codeCount_39 rfl ?_
        rw [eSize_short (by rw [List.length_drop]; omega), Nat.add_zero] at h3
        rw [h3]
        exact ⟨rfl, rfl⟩
      · have c11 : i + 1 < E.length := Nat.not_le.mp (fun z => c11 ((nI_leI (a := E.length) (b := i + 1) (by omega) (by omega)).mpr z))
        obtain ⟨a, b, hab, ha1, hb1, hdr⟩ := eDrop2 hA c11
        refine w_iload_n d_MS_codeCount_14 rfl ?_
        refine w_aload_n d_MS_codeCount_15 rfl rfl ?_
        refine w_get d_MS_codeCount_16 f_MS_11 hp rfl ?_
        refine w_iload_n d_MS_codeCount_19 rfl ?_
        refine w_iconst (v := nI 1) d_MS_codeCount_20 (by decide) ?_
        refine w_iadd d_MS_codeCount_21 ?_
        refine w_topi (y := nI (i + 1)) (nI_add _ _) ?_
        refine w_iald d_MS_codeCount_22 ha (vp_in_nI (by omega) (by omega)) ?_
        refine w_topi (y := nI b) (by rw [nI_clamp (by omega)]; exact hf _ _ hb1) ?_
        refine w_aload_n d_MS_codeCount_23 rfl rfl ?_
        refine w_get d_MS_codeCount_24 f_MS_11 hp rfl ?_
        refine w_iload_n d_MS_codeCount_27 rfl ?_
        refine w_iald d_MS_codeCount_28 ha (vp_in_nI (by omega) (by omega)) ?_
        refine w_topi (y := nI a) (by rw [nI_clamp (by omega)]; exact hf _ _ ha1) ?_
        refine w_isub d_MS_codeCount_29 ?_
        refine w_topi (y := nI (b - a)) (pk_sub (Nat.le_of_lt hab)) ?_
        refine w_iadd d_MS_codeCount_30 ?_
        refine w_topi (y := nI (tot + (b - a))) (nI_add _ _) ?_
        refine w_istore_n d_MS_codeCount_31 (by decide) ?_
        refine w_iinc (v := nI (i + 2)) d_MS_codeCount_32 rfl (nI_add i 2) (by decide) ?_
        refine w_goto (tgt := 4) d_MS_codeCount_35 rfl ?_
        exact ih (i + 2) (tot + (b - a)) (by omega) (by omega) (by rw [hdr] at h3; simp only [eSize] at h3; omega)
  refine w_iconst (v := nI 0) d_MS_codeCount_0 (by decide) ?_
  refine w_istore_n d_MS_codeCount_1 (by decide) ?_
  refine w_iconst (v := nI 0) d_MS_codeCount_2 (by decide) ?_
  refine w_istore_n d_MS_codeCount_3 (by decide) ?_
  exact L (E.length + 1) 0 0 (by omega) (by omega) (by rw [List.drop_zero]; omega)
set_option maxHeartbeats 4000000 in
set_option maxRecDepth 100000 in
theorem m_MS_codeOfRank {h : wH} {p r0 : Nat} {E S : List Nat} (hm : hMS h p E S) (hA : eAsc E) (hE : ∀ y ∈ E, y < 2 ^ 31) (hr : r0 < 2 ^ 31) : PM X M_MS_codeOfRank 0 0 0 [.ref p, .int (nI r0)] h (fun r h' => r = some (.int (match eNth E r0 with | some x => nI x | none => -1)) ∧ h' = h) := by
  obtain ⟨f, kk, hp, ha, hb, hl1, hl2, hf, hk⟩ := hm
  refine PM.at (pl := [some (.ref p), some (.int (nI r0)), none, none, none]) rfl rfl (by simp [wle, wen]) ?_
  generalize hEN : wEm X 0 0 _ = EN
  have L : ∀ (n : Nat) (i left : Nat), (E.length - i < n) → (i ≤ E.length + 1) → (left < 2 ^ 31) → (eNth (E.drop i) left = eNth E r0) → WP X M_MS_codeOfRank (wR 0 0 0) 0 EN 0 0 4 [some (.ref p), some (.int (nI r0)), some (.int (nI left)), some (.int (nI i)), none] [] h := by
    intro n
    induction n with
    | zero => intro i left h1 h2 h4 h3; omega
    | succ n ih =>
      intro i left h1 h2 h4 h3
      refine w_iload_n d_MS_codeOfRank_4 rfl ?_
      refine w_iconst (v := nI 1) d_MS_codeOfRank_5 (by decide) ?_
      refine w_iadd d_MS_codeOfRank_6 ?_
      refine w_topi (y := nI (i + 1)) (nI_add _ _) ?_
      refine w_aload_n d_MS_codeOfRank_7 rfl rfl ?_
      refine w_get d_MS_codeOfRank_8 f_MS_21 hp rfl ?_
      refine w_icmp_ge (tgt := 57) d_MS_codeOfRank_11 rfl (fun c11 => ?_) (fun c11 => ?_)
      · have c11 := (nI_leI (a := E.length) (b := i + 1) (by omega) (by omega)).mp c11
        refine w_iconst (v := -1) d_MS_codeOfRank_57 (by decide) ?_
        rw [← hEN]
        refine w_iret d_MS_codeOfRank_58 rfl ?_
        rw [eNth_short (by rw [List.length_drop]; omega)] at h3
        rw [← h3]
        exact ⟨rfl, rfl⟩
      · have c11 : i + 1 < E.length := Nat.not_le.mp (fun z => c11 ((nI_leI (a := E.length) (b := i + 1) (by omega) (by omega)).mpr z))
        obtain ⟨a, b, hab, ha1, hb1, hdr⟩ := eDrop2 hA c11
        have hb31 := hE b (List.mem_of_getElem? hb1)
        rw [hdr] at h3
        simp only [eNth] at h3
        refine w_aload_n d_MS_codeOfRank_14 rfl rfl ?_
        refine w_get d_MS_codeOfRank_15 f_MS_11 hp rfl ?_
        refine w_iload_n d_MS_codeOfRank_18 rfl ?_
        refine w_iconst (v := nI 1) d_MS_codeOfRank_19 (by decide) ?_
        refine w_iadd d_MS_codeOfRank_20 ?_
        refine w_topi (y := nI (i + 1)) (nI_add _ _) ?_
        refine w_iald d_MS_codeOfRank_21 ha (vp_in_nI (by omega) (by omega)) ?_
        refine w_topi (y := nI b) (by rw [nI_clamp (by omega)]; exact hf _ _ hb1) ?_
        refine w_aload_n d_MS_codeOfRank_22 rfl rfl ?_
        refine w_get d_MS_codeOfRank_23 f_MS_11 hp rfl ?_
        refine w_iload_n d_MS_codeOfRank_26 rfl ?_
        refine w_iald d_MS_codeOfRank_27 ha (vp_in_nI (by omega) (by omega)) ?_
        refine w_topi (y := nI a) (by rw [nI_clamp (by omega)]; exact hf _ _ ha1) ?_
        refine w_isub d_MS_codeOfRank_28 ?_
        refine w_topi (y := nI (b - a)) (pk_sub (Nat.le_of_lt hab)) ?_
        refine w_istore d_MS_codeOfRank_29 (by decide) ?_
        refine w_iload_n d_MS_codeOfRank_31 rfl ?_
        refine w_iload d_MS_codeOfRank_32 rfl ?_
        refine w_icmp_ge (tgt := 46) d_MS_codeOfRank_34 rfl (fun c34 => ?_) (fun c34 => ?_)
        · have c34 := (nI_leI (a := b - a) (b := left) (by omega) (by omega)).mp c34
          rw [if_neg (by omega)] at h3
          refine w_iload_n d_MS_codeOfRank_46 rfl ?_
          refine w_iload d_MS_codeOfRank_47 rfl ?_
          refine w_isub d_MS_codeOfRank_49 ?_
          refine w_topi (y := nI (left - (b - a))) (pk_sub c34) ?_
          refine w_istore_n d_MS_codeOfRank_50 (by decide) ?_
          refine w_iinc (v := nI (i + 2)) d_MS_codeOfRank_51 rfl (nI_add i 2) (by decide) ?_
          refine w_goto (tgt := 4) d_MS_codeOfRank_54 rfl ?_
          refine w_le (pl' := [some (.ref p), some (.int (nI r0)), some (.int (nI (left - (b - a)))), some (.int (nI (i + 2))), none]) ⟨rfl, rfl, rfl, rfl, trivial⟩ ?_
          exact ih (i + 2) (left - (b - a)) (by omega) (by omega) (by omega) h3
        · have c34 : left < b - a := Nat.not_le.mp (fun z => c34 ((nI_leI (a := b - a) (b := left) (by omega) (by omega)).mpr z))
          rw [if_pos c34] at h3
          refine w_aload_n d_MS_codeOfRank_37 rfl rfl ?_
          refine w_get d_MS_codeOfRank_38 f_MS_11 hp rfl ?_
          refine w_iload_n d_MS_codeOfRank_41 rfl ?_
          refine w_iald d_MS_codeOfRank_42 ha (vp_in_nI (by omega) (by omega)) ?_
          refine w_topi (y := nI a) (by rw [nI_clamp (by omega)]; exact hf _ _ ha1) ?_
          refine w_iload_n d_MS_codeOfRank_43 rfl ?_
          refine w_iadd d_MS_codeOfRank_44 ?_
          refine w_topi (y := nI (a + left)) (nI_add _ _) ?_
          rw [← hEN]
          refine w_iret d_MS_codeOfRank_45 rfl ?_
          rw [← h3]
          exact ⟨rfl, rfl⟩
  refine w_iload_n d_MS_codeOfRank_0 rfl ?_
  refine w_istore_n d_MS_codeOfRank_1 (by decide) ?_
  refine w_iconst (v := nI 0) d_MS_codeOfRank_2 (by decide) ?_
  refine w_istore_n d_MS_codeOfRank_3 (by decide) ?_
  exact L (E.length + 1) 0 r0 (by omega) (by omega) hr (by rw [List.drop_zero])
end MS1
