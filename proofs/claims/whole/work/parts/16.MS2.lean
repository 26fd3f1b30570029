/-! MemberSet, two: written by wip/gen/ms2.py -/
section MS2
variable {X : wX}
theorem eAll_ok : eOk [0, 1114112] := ⟨by unfold eAsc; decide, fun x hx => by simp at hx; omega⟩
theorem eAll_mem (c : Nat) : eMem [0, 1114112] c = !decide (1114112 ≤ c) := by
  unfold eMem
  rw [eCnt_cons, eCnt_cons, eCnt_nil, if_pos (Nat.zero_le _)]
  by_cases h : 1114112 ≤ c
  · rw [if_pos h, decide_eq_true h]; rfl
  · rw [if_neg h, decide_eq_false h]; rfl
theorem eMem_sn2 {E : List Nat} (hA : eAsc E) {i y : Nat} (hy : E[i]? = some y) (c : Nat) : eMem (E.take i ++ [y]) c = (eMem (E.take i) c != decide (y ≤ c)) := by
  unfold eMem
  rw [eCnt_append, eCnt_cons, eCnt_nil]
  by_cases hc : y ≤ c
  · rw [if_pos hc, decide_eq_true hc]
    rcases Nat.mod_two_eq_zero_or_one (eCnt (E.take i) c) with z | z
    · rw [z, show (eCnt (E.take i) c + (1 + 0)) % 2 = 1 by omega]
      rfl
    · rw [z, show (eCnt (E.take i) c + (1 + 0)) % 2 = 0 by omega]
      rfl
  · rw [if_neg hc, decide_eq_false hc]
    simp
set_option maxHeartbeats 4000000 in
set_option maxRecDepth 100000 in
theorem m_MS_appendRange {h : wH} {p x y : Nat} {E S : List Nat} (hm : hMS h p E S) (hA : eAsc E) (hE : ∀ z ∈ E, z ≤ x) (hxy : x ≤ y) (hy : y + 1 < 2 ^ 31) (hlen : E.length < 399) : PM X M_MS_appendRange 1 0 0 [.ref p, .int (nI x), .int (nI y)] h (fun r h' => r = none ∧ hMS h' p (eTog (eTog E x) (y + 1)) S ∧ wOff h h' p 3) := by
  have hhm := hm; obtain ⟨hf, hk, hp, ha, hb, hl1, hl2, hhf, hhk⟩ := hm
  refine PM.at (pl := [some (.ref p), some (.int (nI x)), some (.int (nI y))]) rfl rfl (by simp [wle, wen]) ?_
  generalize hEN : wEm X 0 0 _ = EN
  refine w_aload_n d_MS_appendRange_0 rfl rfl ?_
  refine w_iload_n d_MS_appendRange_1 rfl ?_
  refine w_callV (as := [.int (nI x)]) (st := []) d_MS_appendRange_2 yM_MS_toggleEdge l_MS_37 vM_MS_toggleEdge hp rfl rfl rfl rfl (m_MS_toggle hhm (fun z hz => by have := hE z hz; omega) (by omega) (by omega)) (by decide) (by decide) (by decide) (by decide) (Nat.le_of_ble_eq_true rfl) ?_
  rintro _ h1 ⟨rfl, hm1, ho1⟩
  refine w_eq (st' := []) rfl ?_
  have gm := hm1; obtain ⟨gf, gk, gp, ga, gb, gl1, gl2, ghf, ghk⟩ := hm1
  have ht := eTog_ok hA hE
  have hl9 := eTog_len E x
  refine w_aload_n d_MS_appendRange_5 rfl rfl ?_
  refine w_iload_n d_MS_appendRange_6 rfl ?_
  refine w_iconst (v := nI 1) d_MS_appendRange_7 (by decide) ?_
  refine w_iadd d_MS_appendRange_8 ?_
  refine w_topi (y := nI (y + 1)) (nI_add _ _) ?_
  refine w_callV (as := [.int (nI (y + 1))]) (st := []) d_MS_appendRange_9 yM_MS_toggleEdge l_MS_37 vM_MS_toggleEdge gp rfl rfl rfl rfl (m_MS_toggle gm (fun z hz => by have := ht.2.1 z hz; omega) hy (by omega)) (by decide) (by decide) (by decide) (by decide) (Nat.le_of_ble_eq_true rfl) ?_
  rintro _ h2 ⟨rfl, hm2, ho2⟩
  refine w_eq (st' := []) rfl ?_
  rw [← hEN]
  refine w_vret d_MS_appendRange_12 rfl ?_
  exact ⟨rfl, hm2, ho1.tr ho2⟩
set_option maxHeartbeats 4000000 in
set_option maxRecDepth 100000 in
theorem m_MS_becomeString {h : wH} {p x : Nat} {E S : List Nat} (hm : hMS h p E S) : PM X M_MS_becomeString 1 0 0 [.ref p, .long (lN x)] h (fun r h' => r = none ∧ hMS h' p [] [x] ∧ wOff h h' p 3) := by
  have hhm := hm; obtain ⟨hf, hk, hp, ha, hb, hl1, hl2, hhf, hhk⟩ := hm
  refine PM.at (pl := [some (.ref p), some (.long (lN x)), none]) rfl rfl (by simp [wle, wen]) ?_
  generalize hEN : wEm X 0 0 _ = EN
  refine w_aload_n d_MS_becomeString_0 rfl rfl ?_
  refine w_callV (as := []) (st := []) d_MS_becomeString_1 yM_MS_clear l_MS_34 vM_MS_clear hp rfl rfl rfl rfl (m_MS_clear hhm) (by decide) (by decide) (by decide) (by decide) (Nat.le_of_ble_eq_true rfl) ?_
  rintro _ h1 ⟨rfl, hm1, ho1⟩
  refine w_eq (st' := []) rfl ?_
  have gm := hm1; obtain ⟨gf, gk, gp, ga, gb, gl1, gl2, ghf, ghk⟩ := hm1
  refine w_aload_n d_MS_becomeString_4 rfl rfl ?_
  refine w_lload_n d_MS_becomeString_5 rfl ?_
  refine w_callV (as := [.long (lN x)]) (st := []) d_MS_becomeString_6 yM_MS_appendKey l_MS_41 vM_MS_appendKey gp rfl rfl rfl rfl (m_MS_appendKey gm (by decide)) (by decide) (by decide) (by decide) (by decide) (Nat.le_of_ble_eq_true rfl) ?_
  rintro _ h2 ⟨rfl, hm2, ho2⟩
  refine w_eq (st' := []) rfl ?_
  rw [← hEN]
  refine w_vret d_MS_becomeString_9 rfl ?_
  exact ⟨rfl, hm2, ho1.tr ho2⟩
set_option maxHeartbeats 4000000 in
set_option maxRecDepth 100000 in
theorem m_MS_becomeOthers {h : wH} {p q : Nat} {E0 S0 E S : List Nat} (hm : hMS h p E0 S0) (hq : hMS h q E S) (hd : p + 3 ≤ q ∨ q + 3 ≤ p) (hE : eOk E) (hlen : E.length < 398) : PM X M_MS_becomeOthers 1 0 0 [.ref p, .ref q] h (fun r h' => r = none ∧ hMS h' p (eCmb 3 E [0, 1114112]) [] ∧ wOff h h' p 3) := by
  have hhm := hm; obtain ⟨hf, hk, hp, ha, hb, hl1, hl2, hhf, hhk⟩ := hm
  have ghm := hq; obtain ⟨gf, gk, gp, ga, gb, gl1, gl2, ghf, ghk⟩ := hq
  refine PM.at (pl := [some (.ref p), some (.ref q), none]) rfl rfl (by simp [wle, wen]) ?_
  generalize hEN : wEm X 0 0 _ = EN
  have L : ∀ (n : Nat) (i : Nat) (h3 : wH) (A : List Nat), (E.length - i < n) → (i ≤ E.length) → (hMS h3 p A []) → (wOff h h3 p 3) → (eAsc A) → (∀ y ∈ A, ∀ b z, i ≤ b → E[b]? = some z → y ≤ z) → (∀ y ∈ A, y ≤ 1114112) → (A.length ≤ i + 1) → (∀ c, eMem A c = (eMem (E.take i) c != true)) → WP X M_MS_becomeOthers (wR 1 0 0) 0 EN 0 0 11 [some (.ref p), some (.ref q), some (.int (nI i))] [] h3 := by
    intro n
    induction n with
    | zero => intro i h3 A k1 k2 k3 k4 k5 k6 k7 k8 k9; omega
    | succ n ih =>
      intro i h3 A k1 k2 k3 k4 k5 k6 k7 k8 k9
      obtain ⟨qf, qk, qp, qa, qb, ql1, ql2, qhf, qhk⟩ := ghm.off k4 (by omega)
      have rm := k3; obtain ⟨rf, rk, rp, ra, rb, rl1, rl2, rhf, rhk⟩ := rm
      refine w_iload_n d_MS_becomeOthers_11 rfl ?_
      refine w_aload_n d_MS_becomeOthers_12 rfl rfl ?_
      refine w_get d_MS_becomeOthers_13 f_MS_21 qp rfl ?_
      refine w_icmp_ge (tgt := 35) d_MS_becomeOthers_16 rfl (fun c16 => ?_) (fun c16 => ?_)
      · have c16 := (nI_leI (a := E.length) (b := i) (by omega) (by omega)).mp c16
        have hi : i = E.length := by omega
        refine w_aload_n d_MS_becomeOthers_35 rfl rfl ?_
        refine w_ldc (v := nI 1114112) d_MS_becomeOthers_36 k_MS_45 ?_
        refine w_callV (as := [.int (nI 1114112)]) (st := []) d_MS_becomeOthers_38 yM_MS_toggleEdge l_MS_37 vM_MS_toggleEdge rp rfl rfl rfl rfl (m_MS_toggle k3 (fun z hz => by have := k7 z hz; omega) (by omega) (by omega)) (by decide) (by decide) (by decide) (by decide) (Nat.le_of_ble_eq_true rfl) ?_
        rintro _ h5 ⟨rfl, hm5, ho5⟩
        refine w_eq (st' := []) rfl ?_
        rw [← hEN]
        refine w_vret d_MS_becomeOthers_41 rfl ?_
        have hT := eTog_ok k5 k7
        refine ⟨rfl, ?_, k4.tr ho5⟩
        rw [← eCmb_eq (E := eTog A 1114112) hE eAll_ok hT.1 (fun c => ?_)]
        · exact hm5
        · rw [hT.2.2, k9, hi, List.take_length, eAll_mem]
          cases eMem E c <;> by_cases hc : 1114112 ≤ c <;> simp [hc, eDec]
      · have c16 : i < E.length := Nat.not_le.mp (fun z => c16 ((nI_leI (a := E.length) (b := i) (by omega) (by omega)).mpr z))
        obtain ⟨y, hy⟩ : ∃ y, E[i]? = some y := ⟨_, List.getElem?_eq_getElem c16⟩
        have hy31 := hE.2 y (List.mem_of_getElem? hy)
        have hT := eTog_ok k5 (fun a ha => k6 a ha i y (Nat.le_refl _) hy)
        refine w_aload_n d_MS_becomeOthers_19 rfl rfl ?_
        refine w_aload_n d_MS_becomeOthers_20 rfl rfl ?_
        refine w_get d_MS_becomeOthers_21 f_MS_11 qp rfl ?_
        refine w_iload_n d_MS_becomeOthers_24 rfl ?_
        refine w_iald d_MS_becomeOthers_25 qa (vp_in_nI (by omega) (by omega)) ?_
        refine w_topi (y := nI y) (by rw [nI_clamp (by omega)]; exact qhf _ _ hy) ?_
        refine w_callV (as := [.int (nI y)]) (st := []) d_MS_becomeOthers_26 yM_MS_toggleEdge l_MS_37 vM_MS_toggleEdge rp rfl rfl rfl rfl (m_MS_toggle k3 (fun z hz => by have := k7 z hz; omega) (by omega) (by omega)) (by decide) (by decide) (by decide) (by decide) (Nat.le_of_ble_eq_true rfl) ?_
        rintro _ h4 ⟨rfl, hm4, ho4⟩
        refine w_eq (st' := []) rfl ?_
        refine w_iinc (v := nI (i + 1)) d_MS_becomeOthers_29 rfl (nI_1 _) (by decide) ?_
        refine w_goto (tgt := 11) d_MS_becomeOthers_32 rfl ?_
        refine ih (i + 1) h4 (eTog A y) (by omega) (by omega) hm4 (k4.tr ho4) hT.1 (fun a ha b z hb hz => ?_) (fun a ha => ?_) (Nat.le_trans (eTog_len A y) (by omega)) (fun c => ?_)
        · exact Nat.le_trans (hT.2.1 a ha) (Nat.le_of_lt (eAsc_lt hE.1 (by omega) hy hz))
        · exact Nat.le_trans (hT.2.1 a ha) hy31
        · rw [hT.2.2, k9, eTake_succ hy, eMem_sn2 hE.1 hy c]
          cases eMem (E.take i) c <;> by_cases hc : y ≤ c <;> simp [hc]
  refine w_aload_n d_MS_becomeOthers_0 rfl rfl ?_
  refine w_callV (as := []) (st := []) d_MS_becomeOthers_1 yM_MS_clear l_MS_34 vM_MS_clear hp rfl rfl rfl rfl (m_MS_clear hhm) (by decide) (by decide) (by decide) (by decide) (Nat.le_of_ble_eq_true rfl) ?_
  rintro _ h1 ⟨rfl, hm1, ho1⟩
  refine w_eq (st' := []) rfl ?_
  have zm := hm1; obtain ⟨zf, zk, zp, za, zb, zl1, zl2, zhf, zhk⟩ := hm1
  refine w_aload_n d_MS_becomeOthers_4 rfl rfl ?_
  refine w_iconst (v := nI 0) d_MS_becomeOthers_5 (by decide) ?_
  refine w_callV (as := [.int (nI 0)]) (st := []) d_MS_becomeOthers_6 yM_MS_toggleEdge l_MS_37 vM_MS_toggleEdge zp rfl rfl rfl rfl (m_MS_toggle zm (fun z hz => by cases hz) (by decide) (by decide)) (by decide) (by decide) (by decide) (by decide) (Nat.le_of_ble_eq_true rfl) ?_
  rintro _ h2 ⟨rfl, hm2, ho2⟩
  refine w_eq (st' := []) rfl ?_
  refine w_iconst (v := nI 0) d_MS_becomeOthers_9 (by decide) ?_
  refine w_istore_n d_MS_becomeOthers_10 (by decide) ?_
  refine L (E.length + 1) 0 h2 [0] (by omega) (Nat.zero_le _) hm2 (ho1.tr ho2) (List.pairwise_singleton _ _) (fun y hy b z _ _ => by rw [List.mem_singleton] at hy; omega) (fun y hy => by rw [List.mem_singleton] at hy; omega) (by decide) (fun c => ?_)
  rw [List.take_zero]
  simp [eMem, eCnt]
end MS2
