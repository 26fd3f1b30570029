/-! MemberSet, four: copies and keys: written by wip/gen/ms4.py -/
theorem kOf_0 {a b t : Nat} (ha : a < 1114112) (hb : b < 1114112) (ht : t ≤ 1114112) : kOf a b t / 2 ^ 42 % 2097152 = a + 1 := by unfold kOf; omega
theorem kOf_1 {a b t : Nat} (ha : a < 1114112) (hb : b < 1114112) (ht : t ≤ 1114112) : kOf a b t / 2 ^ 21 % 2097152 = b + 1 := by unfold kOf; omega
theorem kOf_2 {a b t : Nat} (ha : a < 1114112) (hb : b < 1114112) (ht : t ≤ 1114112) : kOf a b t / 2 ^ 0 % 2097152 = t := by unfold kOf; omega
section MS4
variable {X : wX}
set_option maxHeartbeats 4000000 in
set_option maxRecDepth 100000 in
theorem m_MS_become {h : wH} {p q : Nat} {E0 S0 E S : List Nat} (hm : hMS h p E0 S0) (hq : hMS h q E S) (hd : p + 3 ≤ q ∨ q + 3 ≤ p) : PM X M_MS_become 1 0 0 [.ref p, .ref q] h (fun r h' => r = none ∧ hMS h' p E S ∧ wOff h h' p 3) := by
  have hhm := hm; obtain ⟨hf, hk, hp, ha, hb, hl1, hl2, hhf, hhk⟩ := hm
  have ghm := hq; obtain ⟨gf, gk, gp, ga, gb, gl1, gl2, ghf, ghk⟩ := hq
  refine PM.at (pl := [some (.ref p), some (.ref q)]) rfl rfl (by simp [wle, wen]) ?_
  generalize hEN : wEm X 0 0 _ = EN
  refine w_aload_n d_MS_become_0 rfl rfl ?_
  refine w_get d_MS_become_1 f_MS_11 gp rfl ?_
  refine w_iconst (v := nI 0) d_MS_become_4 (by decide) ?_
  refine w_aload_n d_MS_become_5 rfl rfl ?_
  refine w_get d_MS_become_6 f_MS_11 hp rfl ?_
  refine w_iconst (v := nI 0) d_MS_become_9 (by decide) ?_
  refine w_aload_n d_MS_become_10 rfl rfl ?_
  refine w_get d_MS_become_11 f_MS_21 gp rfl ?_
  refine w_copyI d_MS_become_14 a_MS_28 aCopy1 aCopy2 aCopy3 ga ha (nI_pos (by omega)) (nI_pos (by omega)) (nI_pos (by omega)) (by rw [nI_clamp (by omega), nI_clamp (by omega)]; omega) (by rw [nI_clamp (by omega), nI_clamp (by omega)]; omega) (by decide) (by decide) (by decide) ?_
  refine w_nm (fun h1 e1 => ?_)
  have hp_1 := wS_ne e1 (by omega) hp
  have ha_1 := wS_eq e1 ha
  have hb_1 := wS_ne e1 (by omega) hb
  have gp_1 := wS_ne e1 (by omega) gp
  have ga_1 := wS_ne e1 (by omega) ga
  have gb_1 := wS_ne e1 (by omega) gb
  refine w_aload_n d_MS_become_17 rfl rfl ?_
  refine w_get d_MS_become_18 f_MS_15 gp_1 rfl ?_
  refine w_iconst (v := nI 0) d_MS_become_21 (by decide) ?_
  refine w_aload_n d_MS_become_22 rfl rfl ?_
  refine w_get d_MS_become_23 f_MS_15 hp_1 rfl ?_
  refine w_iconst (v := nI 0) d_MS_become_26 (by decide) ?_
  refine w_aload_n d_MS_become_27 rfl rfl ?_
  refine w_get d_MS_become_28 f_MS_25 gp_1 rfl ?_
  refine w_copyJ d_MS_become_31 a_MS_28 aCopy1 aCopy2 aCopy3 gb_1 hb_1 (nI_pos (by omega)) (nI_pos (by omega)) (nI_pos (by omega)) (by rw [nI_clamp (by omega), nI_clamp (by omega)]; omega) (by rw [nI_clamp (by omega), nI_clamp (by omega)]; omega) (by decide) (by decide) (by decide) ?_
  refine w_nm (fun h2 e2 => ?_)
  have hp_2 := wS_ne e2 (by omega) hp_1
  have ha_2 := wS_ne e2 (by omega) ha_1
  have hb_2 := wS_eq e2 hb_1
  have gp_2 := wS_ne e2 (by omega) gp_1
  have ga_2 := wS_ne e2 (by omega) ga_1
  have gb_2 := wS_ne e2 (by omega) gb_1
  refine w_aload_n d_MS_become_34 rfl rfl ?_
  refine w_aload_n d_MS_become_35 rfl rfl ?_
  refine w_get d_MS_become_36 f_MS_21 gp_2 rfl ?_
  refine w_put d_MS_become_39 f_MS_21 rfl hp_2 rfl rfl rfl ?_
  refine w_nm (fun h3 e3 => ?_)
  have hp_3 := wS_eq e3 hp_2
  have ha_3 := wS_ne e3 (by omega) ha_2
  have hb_3 := wS_ne e3 (by omega) hb_2
  have gp_3 := wS_ne e3 (by omega) gp_2
  have ga_3 := wS_ne e3 (by omega) ga_2
  have gb_3 := wS_ne e3 (by omega) gb_2
  refine w_aload_n d_MS_become_42 rfl rfl ?_
  refine w_aload_n d_MS_become_43 rfl rfl ?_
  refine w_get d_MS_become_44 f_MS_25 gp_3 rfl ?_
  refine w_put d_MS_become_47 f_MS_25 rfl hp_3 rfl rfl rfl ?_
  refine w_nm (fun h4 e4 => ?_)
  have hp_4 := wS_eq e4 hp_3
  have ha_4 := wS_ne e4 (by omega) ha_3
  have hb_4 := wS_ne e4 (by omega) hb_3
  have gp_4 := wS_ne e4 (by omega) gp_3
  have ga_4 := wS_ne e4 (by omega) ga_3
  have gb_4 := wS_ne e4 (by omega) gb_3
  rw [← hEN]
  refine w_vret d_MS_become_50 rfl ?_
  refine ⟨rfl, ⟨_, _, hp_4, ha_4, hb_4, gl1, gl2, fun i x hx => ?_, fun i x hx => ?_⟩, fun k hk => ?_⟩
  · rw [nI_clamp (by omega), nI_clamp (by omega), pk_cpy_in (Nat.zero_le _) (by have := (List.getElem?_eq_some_iff.mp hx).1; omega), Nat.zero_add, Nat.sub_zero]
    exact ghf i x hx
  · rw [nI_clamp (by omega), nI_clamp (by omega), pk_cpy_in (Nat.zero_le _) (by have := (List.getElem?_eq_some_iff.mp hx).1; omega), Nat.zero_add, Nat.sub_zero]
    exact ghk i x hx
  · rw [wS_off e4 (by omega), wS_off e3 (by omega), wS_off e2 (by omega), wS_off e1 (by omega)]
set_option maxHeartbeats 4000000 in
set_option maxRecDepth 100000 in
theorem m_MS_becomeEdges {h : wH} {p i0 : Nat} {E0 S0 T : List Nat} {tf : Nat → Int32} (hm : hMS h p E0 S0) (ht : (xo X)[i0]? = some (T.length, tf)) (htf : ∀ i x, T[i]? = some x → tf i = nI x) (hT : eOk T) (hlen : T.length < 400) : PM X M_MS_becomeEdges 1 0 0 [.ref p, .ref (1000 + i0)] h (fun r h' => r = none ∧ hMS h' p T [] ∧ wOff h h' p 3) := by
  have hhm := hm; obtain ⟨hf, hk, hp, ha, hb, hl1, hl2, hhf, hhk⟩ := hm
  refine PM.at (pl := [some (.ref p), some (.ref (1000 + i0)), none]) rfl rfl (by simp [wle, wen]) ?_
  generalize hEN : wEm X 0 0 _ = EN
  have L : ∀ (n : Nat) (i : Nat) (h3 : wH), (T.length - i < n) → (i ≤ T.length) → (hMS h3 p (T.take i) []) → (wOff h h3 p 3) → WP X M_MS_becomeEdges (wR 1 0 0) 0 EN 0 0 6 [some (.ref p), some (.ref (1000 + i0)), some (.int (nI i))] [] h3 := by
    intro n
    induction n with
    | zero => intro i h3 k1 k2 k3 k4; omega
    | succ n ih =>
      intro i h3 k1 k2 k3 k4
      have rm := k3; obtain ⟨rf, rk, rp, ra, rb, rl1, rl2, rhf, rhk⟩ := rm
      refine w_iload_n d_MS_becomeEdges_6 rfl ?_
      refine w_aload_n d_MS_becomeEdges_7 rfl rfl ?_
      refine w_tlen (v := nI T.length) d_MS_becomeEdges_8 ht rfl ?_
      refine w_icmp_ge (tgt := 25) d_MS_becomeEdges_9 rfl (fun c9 => ?_) (fun c9 => ?_)
      · have c9 := (nI_leI (a := T.length) (b := i) (by omega) (by omega)).mp c9
        rw [← hEN]
        refine w_vret d_MS_becomeEdges_25 rfl ?_
        rw [List.take_of_length_le c9] at k3
        exact ⟨rfl, k3, k4⟩
      · have c9 : i < T.length := Nat.not_le.mp (fun z => c9 ((nI_leI (a := T.length) (b := i) (by omega) (by omega)).mpr z))
        obtain ⟨y, hy⟩ : ∃ y, T[i]? = some y := ⟨_, List.getElem?_eq_getElem c9⟩
        have hy31 := hT.2 y (List.mem_of_getElem? hy)
        have hlt : ∀ a ∈ T.take i, a < y := fun a ha => by obtain ⟨k, z1, z2⟩ := eMem_take ha; exact eAsc_lt hT.1 z1 z2 hy
        refine w_aload_n d_MS_becomeEdges_12 rfl rfl ?_
        refine w_aload_n d_MS_becomeEdges_13 rfl rfl ?_
        refine w_iload_n d_MS_becomeEdges_14 rfl ?_
        refine w_ti d_MS_becomeEdges_15 ht (vp_in_nI (by omega) (by omega)) ?_
        refine w_topi (y := nI y) (by rw [nI_clamp (by omega)]; exact htf _ _ hy) ?_
        refine w_callV (as := [.int (nI y)]) (st := []) d_MS_becomeEdges_16 yM_MS_toggleEdge l_MS_37 vM_MS_toggleEdge rp rfl rfl rfl rfl (m_MS_toggle k3 (fun z hz => by have := hlt z hz; omega) (by omega) (by rw [List.length_take]; omega)) (by decide) (by decide) (by decide) (by decide) (Nat.le_of_ble_eq_true rfl) ?_
        rintro _ h4 ⟨rfl, hm4, ho4⟩
        refine w_eq (st' := []) rfl ?_
        refine w_iinc (v := nI (i + 1)) d_MS_becomeEdges_19 rfl (nI_1 _) (by decide) ?_
        refine w_goto (tgt := 6) d_MS_becomeEdges_22 rfl ?_
        rw [eTog_new hlt, ← eTake_succ hy] at hm4
        exact ih (i + 1) h4 (by omega) (by omega) hm4 (k4.tr ho4)
  refine w_aload_n d_MS_becomeEdges_0 rfl rfl ?_
  refine w_callV (as := []) (st := []) d_MS_becomeEdges_1 yM_MS_clear l_MS_34 vM_MS_clear hp rfl rfl rfl rfl (m_MS_clear hhm) (by decide) (by decide) (by decide) (by decide) (Nat.le_of_ble_eq_true rfl) ?_
  rintro _ h1 ⟨rfl, hm1, ho1⟩
  refine w_eq (st' := []) rfl ?_
  refine w_iconst (v := nI 0) d_MS_becomeEdges_4 (by decide) ?_
  refine w_istore_n d_MS_becomeEdges_5 (by decide) ?_
  exact L (T.length + 1) 0 h1 (by omega) (Nat.zero_le _) (by rw [List.take_zero]; exact hm1) ho1
set_option maxHeartbeats 4000000 in
set_option maxRecDepth 100000 in
theorem m_MS_keyOf {h : wH} {a b t : Nat} {x : Int32} (ha : a < 1114112) (hb : b < 1114112) (hx : x.toInt64 + lN 1 = lN t) (ht : t ≤ 1114112) : PM X M_MS_keyOf 0 0 0 [.int (nI a), .int (nI b), .int (x)] h (fun r h' => r = some (.long (lN (kOf a b t))) ∧ h' = h) := by
  refine PM.at (pl := [some (.int (nI a)), some (.int (nI b)), some (.int (x))]) rfl rfl (by simp [wle, wen]) ?_
  generalize hEN : wEm X 0 0 _ = EN
  refine w_iload_n d_MS_keyOf_0 rfl ?_
  refine w_i2l d_MS_keyOf_1 ?_
  refine w_topl (y := lN a) (nI_l (by omega)) ?_
  refine w_lconst (v := lN 1) d_MS_keyOf_2 (by decide) ?_
  refine w_ladd d_MS_keyOf_3 ?_
  refine w_topl (y := lN (a + 1)) (lN_add _ _) ?_
  refine w_bipush (v := nI 42) d_MS_keyOf_4 (by decide) ?_
  refine w_lshl d_MS_keyOf_6 ?_
  refine w_topl (y := lN ((a + 1) * 2 ^ 42)) (wb_shl _ (by decide)) ?_
  refine w_iload_n d_MS_keyOf_7 rfl ?_
  refine w_i2l d_MS_keyOf_8 ?_
  refine w_topl (y := lN b) (nI_l (by omega)) ?_
  refine w_lconst (v := lN 1) d_MS_keyOf_9 (by decide) ?_
  refine w_ladd d_MS_keyOf_10 ?_
  refine w_topl (y := lN (b + 1)) (lN_add _ _) ?_
  refine w_bipush (v := nI 21) d_MS_keyOf_11 (by decide) ?_
  refine w_lshl d_MS_keyOf_13 ?_
  refine w_topl (y := lN ((b + 1) * 2 ^ 21)) (wb_shl _ (by decide)) ?_
  refine w_lor d_MS_keyOf_14 ?_
  refine w_iload_n d_MS_keyOf_15 rfl ?_
  refine w_i2l d_MS_keyOf_16 ?_
  refine w_lconst (v := lN 1) d_MS_keyOf_17 (by decide) ?_
  refine w_ladd d_MS_keyOf_18 ?_
  refine w_topl (y := lN t) hx ?_
  refine w_lor d_MS_keyOf_19 ?_
  refine w_topl (y := lN (kOf a b t)) (kOr (by omega) (by omega) ht) ?_
  rw [← hEN]
  refine w_lret d_MS_keyOf_20 rfl ?_
  exact ⟨rfl, rfl⟩
set_option maxHeartbeats 4000000 in
set_option maxRecDepth 100000 in
theorem m_MS_codeOfKey0 {h : wH} {a b t : Nat} (ha : a < 1114112) (hb : b < 1114112) (ht : t ≤ 1114112) : PM X M_MS_codeOfKey 0 0 0 [.long (lN (kOf a b t)), .int (nI 0)] h (fun r h' => r = some (.int (nI a)) ∧ h' = h) := by
  have hlt := kOf_lt ha hb ht
  refine PM.at (pl := [some (.long (lN (kOf a b t))), none, some (.int (nI 0)), none]) rfl rfl (by simp [wle, wen]) ?_
  generalize hEN : wEm X 0 0 _ = EN
  refine w_iconst (v := nI 2) d_MS_codeOfKey_0 (by decide) ?_
  refine w_iload_n d_MS_codeOfKey_1 rfl ?_
  refine w_isub d_MS_codeOfKey_2 ?_
  refine w_topi (y := nI 2) (by decide) ?_
  refine w_bipush (v := nI 21) d_MS_codeOfKey_3 (by decide) ?_
  refine w_imul d_MS_codeOfKey_5 ?_
  refine w_topi (y := nI 42) (by decide) ?_
  refine w_istore_n d_MS_codeOfKey_6 (by decide) ?_
  refine w_lload_n d_MS_codeOfKey_7 rfl ?_
  refine w_iload_n d_MS_codeOfKey_8 rfl ?_
  refine w_lshr d_MS_codeOfKey_9 ?_
  refine w_topl (y := lN (kOf a b t / 2 ^ 42)) (kshr (d := 42) (by decide) (by omega)) ?_
  refine w_ldc2 (v := lN 2097151) d_MS_codeOfKey_10 k_MS_19 ?_
  refine w_land d_MS_codeOfKey_13 ?_
  refine w_topl (y := lN (kOf a b t / 2 ^ 42 % 2097152)) (kMask (by omega)) ?_
  refine w_l2i d_MS_codeOfKey_14 ?_
  refine w_topi (y := nI (a + 1)) (by rw [lN_i, kOf_0 ha hb ht]) ?_
  refine w_iconst (v := nI 1) d_MS_codeOfKey_15 (by decide) ?_
  refine w_isub d_MS_codeOfKey_16 ?_
  refine w_topi (y := nI a) (pk_sub (by omega)) ?_
  rw [← hEN]
  refine w_iret d_MS_codeOfKey_17 rfl ?_
  exact ⟨rfl, rfl⟩
set_option maxHeartbeats 4000000 in
set_option maxRecDepth 100000 in
theorem m_MS_codeOfKey1 {h : wH} {a b t : Nat} (ha : a < 1114112) (hb : b < 1114112) (ht : t ≤ 1114112) : PM X M_MS_codeOfKey 0 0 0 [.long (lN (kOf a b t)), .int (nI 1)] h (fun r h' => r = some (.int (nI b)) ∧ h' = h) := by
  have hlt := kOf_lt ha hb ht
  refine PM.at (pl := [some (.long (lN (kOf a b t))), none, some (.int (nI 1)), none]) rfl rfl (by simp [wle, wen]) ?_
  generalize hEN : wEm X 0 0 _ = EN
  refine w_iconst (v := nI 2) d_MS_codeOfKey_0 (by decide) ?_
  refine w_iload_n d_MS_codeOfKey_1 rfl ?_
  refine w_isub d_MS_codeOfKey_2 ?_
  refine w_topi (y := nI 1) (by decide) ?_
  refine w_bipush (v := nI 21) d_MS_codeOfKey_3 (by decide) ?_
  refine w_imul d_MS_codeOfKey_5 ?_
  refine w_topi (y := nI 21) (by decide) ?_
  refine w_istore_n d_MS_codeOfKey_6 (by decide) ?_
  refine w_lload_n d_MS_codeOfKey_7 rfl ?_
  refine w_iload_n d_MS_codeOfKey_8 rfl ?_
  refine w_lshr d_MS_codeOfKey_9 ?_
  refine w_topl (y := lN (kOf a b t / 2 ^ 21)) (kshr (d := 21) (by decide) (by omega)) ?_
  refine w_ldc2 (v := lN 2097151) d_MS_codeOfKey_10 k_MS_19 ?_
  refine w_land d_MS_codeOfKey_13 ?_
  refine w_topl (y := lN (kOf a b t / 2 ^ 21 % 2097152)) (kMask (by omega)) ?_
  refine w_l2i d_MS_codeOfKey_14 ?_
  refine w_topi (y := nI (b + 1)) (by rw [lN_i, kOf_1 ha hb ht]) ?_
  refine w_iconst (v := nI 1) d_MS_codeOfKey_15 (by decide) ?_
  refine w_isub d_MS_codeOfKey_16 ?_
  refine w_topi (y := nI b) (pk_sub (by omega)) ?_
  rw [← hEN]
  refine w_iret d_MS_codeOfKey_17 rfl ?_
  exact ⟨rfl, rfl⟩
set_option maxHeartbeats 4000000 in
set_option maxRecDepth 100000 in
theorem m_MS_codeOfKey2 {h : wH} {a b t : Nat} (ha : a < 1114112) (hb : b < 1114112) (ht : t ≤ 1114112) : PM X M_MS_codeOfKey 0 0 0 [.long (lN (kOf a b t)), .int (nI 2)] h (fun r h' => r = some (.int (nI t - nI 1)) ∧ h' = h) := by
  have hlt := kOf_lt ha hb ht
  refine PM.at (pl := [some (.long (lN (kOf a b t))), none, some (.int (nI 2)), none]) rfl rfl (by simp [wle, wen]) ?_
  generalize hEN : wEm X 0 0 _ = EN
  refine w_iconst (v := nI 2) d_MS_codeOfKey_0 (by decide) ?_
  refine w_iload_n d_MS_codeOfKey_1 rfl ?_
  refine w_isub d_MS_codeOfKey_2 ?_
  refine w_topi (y := nI 0) (by decide) ?_
  refine w_bipush (v := nI 21) d_MS_codeOfKey_3 (by decide) ?_
  refine w_imul d_MS_codeOfKey_5 ?_
  refine w_topi (y := nI 0) (by decide) ?_
  refine w_istore_n d_MS_codeOfKey_6 (by decide) ?_
  refine w_lload_n d_MS_codeOfKey_7 rfl ?_
  refine w_iload_n d_MS_codeOfKey_8 rfl ?_
  refine w_lshr d_MS_codeOfKey_9 ?_
  refine w_topl (y := lN (kOf a b t / 2 ^ 0)) (kshr (d := 0) (by decide) (by omega)) ?_
  refine w_ldc2 (v := lN 2097151) d_MS_codeOfKey_10 k_MS_19 ?_
  refine w_land d_MS_codeOfKey_13 ?_
  refine w_topl (y := lN (kOf a b t / 2 ^ 0 % 2097152)) (kMask (by omega)) ?_
  refine w_l2i d_MS_codeOfKey_14 ?_
  refine w_topi (y := nI (t)) (by rw [lN_i, kOf_2 ha hb ht]) ?_
  refine w_iconst (v := nI 1) d_MS_codeOfKey_15 (by decide) ?_
  refine w_isub d_MS_codeOfKey_16 ?_
  rw [← hEN]
  refine w_iret d_MS_codeOfKey_17 rfl ?_
  exact ⟨rfl, rfl⟩
end MS4
