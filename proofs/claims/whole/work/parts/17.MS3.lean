/-! MemberSet, three: merges: written by wip/gen/ms3.py -/
theorem bI_and1 (n : Nat) (h : n < 2 ^ 31) : nI n &&& nI 1 = nI (n % 2) := pk_andN (m := nI 1) (by omega) 1 (by decide)
theorem bI_eq (a b : Bool) : bI a = bI b ↔ a = b := by cases a <;> cases b <;> decide
theorem bI_odd1 {n : Nat} (h : n % 2 = 1) : bI (eOdd n) = nI 1 := by unfold eOdd; rw [h]; rfl
theorem bI_odd0 {n : Nat} (h : ¬ n % 2 = 1) : bI (eOdd n) = nI 0 := by unfold eOdd; rw [show n % 2 = 0 by omega]; rfl
theorem mg1 {L : List Nat} {i a x M : Nat} (haa : (i < L.length ∧ L[i]? = some a) ∨ (L.length ≤ i ∧ a = M)) (hx : x ≤ a) (hne : ¬ a = x ∨ L.length ≤ i) : ∀ z, L[i]? = some z → x < z := by
  intro z hz
  rcases haa with ⟨h1, h2⟩ | ⟨h1, -⟩
  · rw [h2] at hz
    cases hz
    omega
  · rw [List.getElem?_eq_none h1] at hz
    cases hz
theorem mg2 {L : List Nat} {i a x M : Nat} (haa : (i < L.length ∧ L[i]? = some a) ∨ (L.length ≤ i ∧ a = M)) (h : i < L.length) (e : a = x) : L[i]? = some x := by
  rcases haa with ⟨-, h2⟩ | ⟨h1, -⟩
  · rw [h2, e]
  · omega
theorem mg3 {L R : List Nat} {i j i' j' a b x M : Nat} (haa : (i < L.length ∧ L[i]? = some a) ∨ (L.length ≤ i ∧ a = M)) (hbb : (j < R.length ∧ R[j]? = some b) ∨ (R.length ≤ j ∧ b = M)) (hxx : (x = a ∧ a < b) ∨ (x = b ∧ b ≤ a)) (hij : i < L.length ∨ j < R.length) (ha : a ≤ M) (hb : b ≤ M)
    (hi : (i' = i ∧ ∀ z, L[i]? = some z → x < z) ∨ (i' = i + 1 ∧ L[i]? = some x)) (hj : (j' = j ∧ ∀ z, R[j]? = some z → x < z) ∨ (j' = j + 1 ∧ R[j]? = some x)) : i' ≠ i ∨ j' ≠ j := by
  rcases hi with ⟨e1, m1⟩ | ⟨e1, -⟩
  · rcases hj with ⟨e2, m2⟩ | ⟨e2, -⟩
    · exfalso
      rcases haa with ⟨h1, h2⟩ | ⟨h1, h2⟩
      · have := m1 a h2
        rcases hbb with ⟨h3, h4⟩ | ⟨h3, h4⟩
        · have := m2 b h4
          omega
        · omega
      · rcases hbb with ⟨h3, h4⟩ | ⟨h3, h4⟩
        · have := m2 b h4
          omega
        · omega
    · exact Or.inr (by omega)
  · exact Or.inl (by omega)
theorem mg4 {L R : List Nat} {i j i' j' x : Nat} (hi : (i' = i ∧ ∀ z, L[i]? = some z → x < z) ∨ (i' = i + 1 ∧ L[i]? = some x)) (hj : (j' = j ∧ ∀ z, R[j]? = some z → x < z) ∨ (j' = j + 1 ∧ R[j]? = some x)) (hne : i' ≠ i ∨ j' ≠ j) : i + j + 1 ≤ i' + j' ∧ i' ≤ i + 1 ∧ j' ≤ j + 1 := by
  rcases hi with ⟨e1, -⟩ | ⟨e1, -⟩ <;> rcases hj with ⟨e2, -⟩ | ⟨e2, -⟩ <;> omega
theorem mk1 {L R : List Nat} {i j a b x M : Nat} (haa : (i < L.length ∧ L[i]? = some a) ∨ (L.length ≤ i ∧ a = M)) (hbb : (j < R.length ∧ R[j]? = some b) ∨ (R.length ≤ j ∧ b = M)) (hxx : (x = a ∧ a < b) ∨ (x = b ∧ b ≤ a)) (hij : i < L.length ∨ j < R.length) (hL : ∀ y ∈ L, y < M) (hR : ∀ y ∈ R, y < M) : x < M := by
  rcases haa with ⟨h1, h2⟩ | ⟨h1, h2⟩
  · have := hL a (List.mem_of_getElem? h2)
    omega
  · rcases hbb with ⟨h3, h4⟩ | ⟨h3, h4⟩
    · have := hR b (List.mem_of_getElem? h4)
      omega
    · omega
theorem mk2 {L : List Nat} {i a x M : Nat} (haa : (i < L.length ∧ L[i]? = some a) ∨ (L.length ≤ i ∧ a = M)) (hx : x ≤ a) (hxM : x < M) : (¬ a = x → ∀ z, L[i]? = some z → x < z) ∧ (a = x → L[i]? = some x) := by
  refine ⟨fun h => mg1 haa hx (Or.inl h), fun h => ?_⟩
  rcases haa with ⟨-, h2⟩ | ⟨-, h2⟩
  · rw [h2, h]
  · omega
section MS3
variable {X : wX}
set_option maxHeartbeats 4000000 in
set_option maxRecDepth 100000 in
theorem m_MS_mergeEdges {h : wH} {p q r how : Nat} {S0 L SL R SR : List Nat} (hm : hMS h p [] S0) (hq : hMS h q L SL) (hr : hMS h r R SR) (hdq : p + 3 ≤ q ∨ q + 3 ≤ p) (hdr : p + 3 ≤ r ∨ r + 3 ≤ p) (hL : eOk L) (hR : eOk R) (hlen : L.length + R.length ≤ 400) (hh : how ≤ 3) : PM X M_MS_mergeEdges 1 0 0 [.ref p, .ref q, .ref r, .int (nI how)] h (fun z h' => z = none ∧ hMS h' p (eCmb how L R) S0 ∧ wOff h h' p 3) := by
  have hhm := hm; obtain ⟨hf, hk, hp, ha, hb, hl1, hl2, hhf, hhk⟩ := hm
  have uhm := hq; obtain ⟨uf, uk, up, ua, ub, ul1, ul2, uhf, uhk⟩ := hq
  have vhm := hr; obtain ⟨vf, vk, vp, va, vb, vl1, vl2, vhf, vhk⟩ := hr
  refine PM.at (pl := [some (.ref p), some (.ref q), some (.ref r), some (.int (nI how)), none, none, none, none, none, none, none, none, none]) rfl rfl (by simp [wle, wen]) ?_
  generalize hEN : wEm X 0 0 _ = EN
  have LP : ∀ (n : Nat) (i j s : Nat) (ins : Bool) (acc : List Nat) (h3 : wH), (L.length + R.length - (i + j) < n) → (s ≤ i + j) → (hMS h3 p acc S0) → (wOff h h3 p 3) → (eInv how L R i j ins acc) → WP X M_MS_mergeEdges (wR 1 0 0) 0 EN 0 0 23 [some (.ref p), some (.ref q), some (.ref r), some (.int (nI how)), some (.int (nI i)), some (.int (nI j)), some (.int (bI ins)), some (.int (nI (L.length + R.length))), some (.int (nI s)), none, none, none, none] [] h3 := by
    intro n
    induction n with
    | zero => intro i j s ins acc h3 k1 k2 k3 k4 k5; omega
    | succ n ih =>
      intro i j s ins acc h3 k1 k2 k3 k4 k5
      obtain ⟨gf, gk, gp, ga, gb, gl1, gl2, ghf, ghk⟩ := uhm.off k4 (by omega)
      obtain ⟨wf, wk, wp, wa, wb, wl1, wl2, whf, whk⟩ := vhm.off k4 (by omega)
      have tm := k3; obtain ⟨tf, tk, tp, ta, tb, tl1, tl2, thf, thk⟩ := tm
      have q1 := k5.1
      have q2 := k5.2.1
      have q6 := k5.2.2.2.2.2.1
      refine w_iload d_MS_mergeEdges_23 rfl ?_
      refine w_iload d_MS_mergeEdges_25 rfl ?_
      refine w_icmp_ge (tgt := 203) d_MS_mergeEdges_27 rfl (fun c27 => ?_) (fun c27 => ?_)
      · have c27 := (nI_leI (a := L.length + R.length) (b := s) (by omega) (by omega)).mp c27
        rw [← hEN]
        refine w_vret d_MS_mergeEdges_203 rfl ?_
        have hi9 : i = L.length := by omega
        have hj9 : j = R.length := by omega
        subst hi9; subst hj9
        have hz := eInv_end k5
        refine ⟨rfl, ?_, k4⟩
        rw [← eCmb_eq hL hR hz.1 hz.2.2.2]
        exact k3
      · have c27 : s < L.length + R.length := Nat.not_le.mp (fun z => c27 ((nI_leI (a := L.length + R.length) (b := s) (by omega) (by omega)).mpr z))
        refine w_iload d_MS_mergeEdges_30 rfl ?_
        refine w_aload_n d_MS_mergeEdges_32 rfl rfl ?_
        refine w_get d_MS_mergeEdges_33 f_MS_21 gp rfl ?_
        suffices J48 : (i < L.length ∨ j < R.length) → WP X M_MS_mergeEdges (wR 1 0 0) 0 EN 0 0 48 [some (.ref p), some (.ref q), some (.ref r), some (.int (nI how)), some (.int (nI i)), some (.int (nI j)), some (.int (bI ins)), some (.int (nI (L.length + R.length))), some (.int (nI s)), none, none, none, none] [] h3 by
          refine w_icmp_lt (tgt := 48) d_MS_mergeEdges_36 rfl (fun c36 => ?_) (fun c36 => ?_)
          · have c36 := (nI_ltI (a := i) (b := L.length) (by omega) (by omega)).mp c36
            exact J48 (Or.inl c36)
          · have c36 : ¬ i < L.length := fun z => c36 ((nI_ltI (a := i) (b := L.length) (by omega) (by omega)).mpr z)
            refine w_iload d_MS_mergeEdges_39 rfl ?_
            refine w_aload_n d_MS_mergeEdges_41 rfl rfl ?_
            refine w_get d_MS_mergeEdges_42 f_MS_21 wp rfl ?_
            refine w_icmp_ge (tgt := 203) d_MS_mergeEdges_45 rfl (fun c45 => ?_) (fun c45 => ?_)
            · have c45 := (nI_leI (a := R.length) (b := j) (by omega) (by omega)).mp c45
              rw [← hEN]
              refine w_vret d_MS_mergeEdges_203 rfl ?_
              have hi9 : i = L.length := by omega
              have hj9 : j = R.length := by omega
              subst hi9; subst hj9
              have hz := eInv_end k5
              refine ⟨rfl, ?_, k4⟩
              rw [← eCmb_eq hL hR hz.1 hz.2.2.2]
              exact k3
            · have c45 : j < R.length := Nat.not_le.mp (fun z => c45 ((nI_leI (a := R.length) (b := j) (by omega) (by omega)).mpr z))
              exact J48 (Or.inr c45)
        intro hij
        refine w_iload d_MS_mergeEdges_48 rfl ?_
        refine w_aload_n d_MS_mergeEdges_50 rfl rfl ?_
        refine w_get d_MS_mergeEdges_51 f_MS_21 gp rfl ?_
        suffices J69 : ∀ a : Nat, ((i < L.length ∧ L[i]? = some a) ∨ (L.length ≤ i ∧ a = 1114112)) → WP X M_MS_mergeEdges (wR 1 0 0) 0 EN 0 0 69 [some (.ref p), some (.ref q), some (.ref r), some (.int (nI how)), some (.int (nI i)), some (.int (nI j)), some (.int (bI ins)), some (.int (nI (L.length + R.length))), some (.int (nI s)), none, none, none, none] [.int (nI a)] h3 by
          refine w_icmp_ge (tgt := 67) d_MS_mergeEdges_54 rfl (fun c54 => ?_) (fun c54 => ?_)
          · have c54 := (nI_leI (a := L.length) (b := i) (by omega) (by omega)).mp c54
            refine w_ldc (v := nI 1114112) d_MS_mergeEdges_67 k_MS_45 ?_
            exact J69 1114112 (Or.inr ⟨c54, rfl⟩)
          · have c54 : i < L.length := Nat.not_le.mp (fun z => c54 ((nI_leI (a := L.length) (b := i) (by omega) (by omega)).mpr z))
            obtain ⟨y, hy⟩ : ∃ y, L[i]? = some y := ⟨_, List.getElem?_eq_getElem c54⟩
            refine w_aload_n d_MS_mergeEdges_57 rfl rfl ?_
            refine w_get d_MS_mergeEdges_58 f_MS_11 gp rfl ?_
            refine w_iload d_MS_mergeEdges_61 rfl ?_
            refine w_iald d_MS_mergeEdges_63 ga (vp_in_nI (by omega) (by omega)) ?_
            refine w_topi (y := nI y) (by rw [nI_clamp (by omega)]; exact ghf _ _ hy) ?_
            refine w_goto (tgt := 69) d_MS_mergeEdges_64 rfl ?_
            exact J69 y (Or.inl ⟨c54, hy⟩)
        intro a haa
        have ha31 : a ≤ 1114112 := by
          rcases haa with ⟨-, z⟩ | ⟨-, z⟩
          · exact hL.2 a (List.mem_of_getElem? z)
          · omega
        refine w_istore d_MS_mergeEdges_69 (by decide) ?_
        refine w_iload d_MS_mergeEdges_71 rfl ?_
        refine w_aload_n d_MS_mergeEdges_73 rfl rfl ?_
        refine w_get d_MS_mergeEdges_74 f_MS_21 wp rfl ?_
        suffices J92 : ∀ b : Nat, ((j < R.length ∧ R[j]? = some b) ∨ (R.length ≤ j ∧ b = 1114112)) → WP X M_MS_mergeEdges (wR 1 0 0) 0 EN 0 0 92 [some (.ref p), some (.ref q), some (.ref r), some (.int (nI how)), some (.int (nI i)), some (.int (nI j)), some (.int (bI ins)), some (.int (nI (L.length + R.length))), some (.int (nI s)), some (.int (nI a)), none, none, none] [.int (nI b)] h3 by
          refine w_icmp_ge (tgt := 90) d_MS_mergeEdges_77 rfl (fun c77 => ?_) (fun c77 => ?_)
          · have c77 := (nI_leI (a := R.length) (b := j) (by omega) (by omega)).mp c77
            refine w_ldc (v := nI 1114112) d_MS_mergeEdges_90 k_MS_45 ?_
            exact J92 1114112 (Or.inr ⟨c77, rfl⟩)
          · have c77 : j < R.length := Nat.not_le.mp (fun z => c77 ((nI_leI (a := R.length) (b := j) (by omega) (by omega)).mpr z))
            obtain ⟨y, hy⟩ : ∃ y, R[j]? = some y := ⟨_, List.getElem?_eq_getElem c77⟩
            refine w_aload_n d_MS_mergeEdges_80 rfl rfl ?_
            refine w_get d_MS_mergeEdges_81 f_MS_11 wp rfl ?_
            refine w_iload d_MS_mergeEdges_84 rfl ?_
            refine w_iald d_MS_mergeEdges_86 wa (vp_in_nI (by omega) (by omega)) ?_
            refine w_topi (y := nI y) (by rw [nI_clamp (by omega)]; exact whf _ _ hy) ?_
            refine w_goto (tgt := 92) d_MS_mergeEdges_87 rfl ?_
            exact J92 y (Or.inl ⟨c77, hy⟩)
        intro b hbb
        have hb31 : b ≤ 1114112 := by
          rcases hbb with ⟨-, z⟩ | ⟨-, z⟩
          · exact hR.2 b (List.mem_of_getElem? z)
          · omega
        refine w_istore d_MS_mergeEdges_92 (by decide) ?_
        refine w_iload d_MS_mergeEdges_94 rfl ?_
        refine w_iload d_MS_mergeEdges_96 rfl ?_
        suffices J108 : ∀ x : Nat, ((x = a ∧ a < b) ∨ (x = b ∧ b ≤ a)) → WP X M_MS_mergeEdges (wR 1 0 0) 0 EN 0 0 108 [some (.ref p), some (.ref q), some (.ref r), some (.int (nI how)), some (.int (nI i)), some (.int (nI j)), some (.int (bI ins)), some (.int (nI (L.length + R.length))), some (.int (nI s)), some (.int (nI a)), some (.int (nI b)), none, none] [.int (nI x)] h3 by
          refine w_icmp_ge (tgt := 106) d_MS_mergeEdges_98 rfl (fun c98 => ?_) (fun c98 => ?_)
          · have c98 := (nI_leI (a := b) (b := a) (by omega) (by omega)).mp c98
            refine w_iload d_MS_mergeEdges_106 rfl ?_
            exact J108 b (Or.inr ⟨rfl, c98⟩)
          · have c98 : a < b := Nat.not_le.mp (fun z => c98 ((nI_leI (a := b) (b := a) (by omega) (by omega)).mpr z))
            refine w_iload d_MS_mergeEdges_101 rfl ?_
            refine w_goto (tgt := 108) d_MS_mergeEdges_103 rfl ?_
            exact J108 a (Or.inl ⟨rfl, c98⟩)
        intro x hxx
        refine w_istore d_MS_mergeEdges_108 (by decide) ?_
        refine w_iload d_MS_mergeEdges_110 rfl ?_
        refine w_iload d_MS_mergeEdges_112 rfl ?_
        suffices J129 : ∀ i' : Nat, ((i' = i ∧ ∀ z, L[i]? = some z → x < z) ∨ (i' = i + 1 ∧ L[i]? = some x)) → WP X M_MS_mergeEdges (wR 1 0 0) 0 EN 0 0 129 [some (.ref p), some (.ref q), some (.ref r), some (.int (nI how)), some (.int (nI i')), some (.int (nI j)), some (.int (bI ins)), some (.int (nI (L.length + R.length))), some (.int (nI s)), some (.int (nI a)), some (.int (nI b)), some (.int (nI x)), none] [] h3 by
          refine w_icmp_ne (tgt := 129) d_MS_mergeEdges_114 rfl (fun c114 => ?_) (fun c114 => ?_)
          · have c114 : ¬ a = x := fun z => c114 (by rw [z])
            exact J129 i (Or.inl ⟨rfl, mg1 haa (by omega) (Or.inl c114)⟩)
          · have c114 : a = x := (nI_eq (by omega) (by omega)).mp c114
            refine w_iload d_MS_mergeEdges_117 rfl ?_
            refine w_aload_n d_MS_mergeEdges_119 rfl rfl ?_
            refine w_get d_MS_mergeEdges_120 f_MS_21 gp rfl ?_
            refine w_icmp_ge (tgt := 129) d_MS_mergeEdges_123 rfl (fun c123 => ?_) (fun c123 => ?_)
            · have c123 := (nI_leI (a := L.length) (b := i) (by omega) (by omega)).mp c123
              exact J129 i (Or.inl ⟨rfl, mg1 haa (by omega) (Or.inr c123)⟩)
            · have c123 : i < L.length := Nat.not_le.mp (fun z => c123 ((nI_leI (a := L.length) (b := i) (by omega) (by omega)).mpr z))
              refine w_iinc (v := nI (i + 1)) d_MS_mergeEdges_126 rfl (nI_1 _) (by decide) ?_
              exact J129 (i + 1) (Or.inr ⟨rfl, mg2 haa c123 c114⟩)
        intro i' hi'
        refine w_iload d_MS_mergeEdges_129 rfl ?_
        refine w_iload d_MS_mergeEdges_131 rfl ?_
        suffices J148 : ∀ j' : Nat, ((j' = j ∧ ∀ z, R[j]? = some z → x < z) ∨ (j' = j + 1 ∧ R[j]? = some x)) → WP X M_MS_mergeEdges (wR 1 0 0) 0 EN 0 0 148 [some (.ref p), some (.ref q), some (.ref r), some (.int (nI how)), some (.int (nI i')), some (.int (nI j')), some (.int (bI ins)), some (.int (nI (L.length + R.length))), some (.int (nI s)), some (.int (nI a)), some (.int (nI b)), some (.int (nI x)), none] [] h3 by
          refine w_icmp_ne (tgt := 148) d_MS_mergeEdges_133 rfl (fun c133 => ?_) (fun c133 => ?_)
          · have c133 : ¬ b = x := fun z => c133 (by rw [z])
            exact J148 j (Or.inl ⟨rfl, mg1 hbb (by omega) (Or.inl c133)⟩)
          · have c133 : b = x := (nI_eq (by omega) (by omega)).mp c133
            refine w_iload d_MS_mergeEdges_136 rfl ?_
            refine w_aload_n d_MS_mergeEdges_138 rfl rfl ?_
            refine w_get d_MS_mergeEdges_139 f_MS_21 wp rfl ?_
            refine w_icmp_ge (tgt := 148) d_MS_mergeEdges_142 rfl (fun c142 => ?_) (fun c142 => ?_)
            · have c142 := (nI_leI (a := R.length) (b := j) (by omega) (by omega)).mp c142
              exact J148 j (Or.inl ⟨rfl, mg1 hbb (by omega) (Or.inr c142)⟩)
            · have c142 : j < R.length := Nat.not_le.mp (fun z => c142 ((nI_leI (a := R.length) (b := j) (by omega) (by omega)).mpr z))
              refine w_iinc (v := nI (j + 1)) d_MS_mergeEdges_145 rfl (nI_1 _) (by decide) ?_
              exact J148 (j + 1) (Or.inr ⟨rfl, mg2 hbb c142 c133⟩)
        intro j' hj'
        have hne := mg3 haa hbb hxx hij ha31 hb31 hi' hj'
        have hcnt := mg4 hi' hj' hne
        have hst := eInv_step hL.1 hR.1 k5 hi' hj' hne
        have hlt := eInv_lt hL.1 hR.1 k5 hi' hj' hne
        refine w_iload d_MS_mergeEdges_148 rfl ?_
        refine w_iconst (v := nI 1) d_MS_mergeEdges_150 (by decide) ?_
        refine w_iand d_MS_mergeEdges_151 ?_
        refine w_topi (y := nI (i' % 2)) (bI_and1 _ (by omega)) ?_
        refine w_iconst (v := nI 1) d_MS_mergeEdges_152 (by decide) ?_
        suffices J161 : WP X M_MS_mergeEdges (wR 1 0 0) 0 EN 0 0 161 [some (.ref p), some (.ref q), some (.ref r), some (.int (nI how)), some (.int (nI i')), some (.int (nI j')), some (.int (bI ins)), some (.int (nI (L.length + R.length))), some (.int (nI s)), some (.int (nI a)), some (.int (nI b)), some (.int (nI x)), none] [.int (bI (eOdd i'))] h3 by
          refine w_icmp_ne (tgt := 160) d_MS_mergeEdges_153 rfl (fun c153 => ?_) (fun c153 => ?_)
          · have c153 : ¬ i' % 2 = 1 := fun z => c153 (by rw [z])
            refine w_iconst (v := nI 0) d_MS_mergeEdges_160 (by decide) ?_
            rw [bI_odd0 c153] at J161; exact J161
          · have c153 : i' % 2 = 1 := (nI_eq (by omega) (by omega)).mp c153
            refine w_iconst (v := nI 1) d_MS_mergeEdges_156 (by decide) ?_
            refine w_goto (tgt := 161) d_MS_mergeEdges_157 rfl ?_
            rw [bI_odd1 c153] at J161; exact J161
        refine w_iload d_MS_mergeEdges_161 rfl ?_
        refine w_iconst (v := nI 1) d_MS_mergeEdges_163 (by decide) ?_
        refine w_iand d_MS_mergeEdges_164 ?_
        refine w_topi (y := nI (j' % 2)) (bI_and1 _ (by omega)) ?_
        refine w_iconst (v := nI 1) d_MS_mergeEdges_165 (by decide) ?_
        suffices J174 : WP X M_MS_mergeEdges (wR 1 0 0) 0 EN 0 0 174 [some (.ref p), some (.ref q), some (.ref r), some (.int (nI how)), some (.int (nI i')), some (.int (nI j')), some (.int (bI ins)), some (.int (nI (L.length + R.length))), some (.int (nI s)), some (.int (nI a)), some (.int (nI b)), some (.int (nI x)), none] [.int (bI (eOdd j')), .int (bI (eOdd i'))] h3 by
          refine w_icmp_ne (tgt := 173) d_MS_mergeEdges_166 rfl (fun c166 => ?_) (fun c166 => ?_)
          · have c166 : ¬ j' % 2 = 1 := fun z => c166 (by rw [z])
            refine w_iconst (v := nI 0) d_MS_mergeEdges_173 (by decide) ?_
            rw [bI_odd0 c166] at J174; exact J174
          · have c166 : j' % 2 = 1 := (nI_eq (by omega) (by omega)).mp c166
            refine w_iconst (v := nI 1) d_MS_mergeEdges_169 (by decide) ?_
            refine w_goto (tgt := 174) d_MS_mergeEdges_170 rfl ?_
            rw [bI_odd1 c166] at J174; exact J174
        refine w_iload_n d_MS_mergeEdges_174 rfl ?_
        refine w_callS (as := [.int (bI (eOdd i')), .int (bI (eOdd j')), .int (nI how)]) (st := []) d_MS_mergeEdges_175 yM_MS_isKept l_MS_53 sM_MS_isKept rfl rfl (m_MS_isKept hh) (by decide) (by decide) (by decide) (by decide) (Nat.le_of_ble_eq_true rfl) ?_
        rintro _ h9_1 ⟨rfl, e9_1⟩
        rw [e9_1]
        refine w_eq (st' := [.int (bI (eDec how (eOdd i') (eOdd j')))]) rfl ?_
        refine w_istore d_MS_mergeEdges_178 (by decide) ?_
        refine w_iload d_MS_mergeEdges_180 rfl ?_
        refine w_iload d_MS_mergeEdges_182 rfl ?_
        refine w_icmp_eq (tgt := 197) d_MS_mergeEdges_184 rfl (fun c184 => ?_) (fun c184 => ?_)
        · have c184 : eDec how (eOdd i') (eOdd j') = ins := (bI_eq _ _).mp c184
          rw [if_pos c184, c184] at hst
          refine w_iinc (v := nI (s + 1)) d_MS_mergeEdges_197 rfl (nI_1 _) (by decide) ?_
          refine w_goto (tgt := 23) d_MS_mergeEdges_200 rfl ?_
          refine w_le (pl' := [some (.ref p), some (.ref q), some (.ref r), some (.int (nI how)), some (.int (nI i')), some (.int (nI j')), some (.int (bI ins)), some (.int (nI (L.length + R.length))), some (.int (nI (s + 1))), none, none, none, none]) ⟨rfl, rfl, rfl, rfl, rfl, rfl, rfl, rfl, rfl, trivial⟩ ?_
          exact ih i' j' (s + 1) ins acc h3 (by omega) (by omega) k3 k4 hst
        · have c184 : ¬ eDec how (eOdd i') (eOdd j') = ins := fun z => c184 (by rw [z])
          rw [if_neg c184] at hst
          refine w_aload_n d_MS_mergeEdges_187 rfl rfl ?_
          refine w_iload d_MS_mergeEdges_188 rfl ?_
          refine w_callV (as := [.int (nI x)]) (st := []) d_MS_mergeEdges_190 yM_MS_toggleEdge l_MS_37 vM_MS_toggleEdge tp rfl rfl rfl rfl (m_MS_toggle k3 (fun z hz => by have := hlt z hz; omega) (by omega) (by omega)) (by decide) (by decide) (by decide) (by decide) (Nat.le_of_ble_eq_true rfl) ?_
          rintro _ h4 ⟨rfl, hm4, ho4⟩
          refine w_eq (st' := []) rfl ?_
          rw [eTog_new hlt] at hm4
          refine w_iload d_MS_mergeEdges_193 rfl ?_
          refine w_istore d_MS_mergeEdges_195 (by decide) ?_
          refine w_iinc (v := nI (s + 1)) d_MS_mergeEdges_197 rfl (nI_1 _) (by decide) ?_
          refine w_goto (tgt := 23) d_MS_mergeEdges_200 rfl ?_
          refine w_le (pl' := [some (.ref p), some (.ref q), some (.ref r), some (.int (nI how)), some (.int (nI i')), some (.int (nI j')), some (.int (bI (eDec how (eOdd i') (eOdd j')))), some (.int (nI (L.length + R.length))), some (.int (nI (s + 1))), none, none, none, none]) ⟨rfl, rfl, rfl, rfl, rfl, rfl, rfl, rfl, rfl, trivial⟩ ?_
          exact ih i' j' (s + 1) (eDec how (eOdd i') (eOdd j')) (acc ++ [x]) h4 (by omega) (by omega) hm4 (k4.tr ho4) hst
  refine w_iconst (v := nI 0) d_MS_mergeEdges_0 (by decide) ?_
  refine w_istore d_MS_mergeEdges_1 (by decide) ?_
  refine w_iconst (v := nI 0) d_MS_mergeEdges_3 (by decide) ?_
  refine w_istore d_MS_mergeEdges_4 (by decide) ?_
  refine w_iconst (v := nI 0) d_MS_mergeEdges_6 (by decide) ?_
  refine w_istore d_MS_mergeEdges_7 (by decide) ?_
  refine w_aload_n d_MS_mergeEdges_9 rfl rfl ?_
  refine w_get d_MS_mergeEdges_10 f_MS_21 up rfl ?_
  refine w_aload_n d_MS_mergeEdges_13 rfl rfl ?_
  refine w_get d_MS_mergeEdges_14 f_MS_21 vp rfl ?_
  refine w_iadd d_MS_mergeEdges_17 ?_
  refine w_topi (y := nI (L.length + R.length)) (nI_add _ _) ?_
  refine w_istore d_MS_mergeEdges_18 (by decide) ?_
  refine w_iconst (v := nI 0) d_MS_mergeEdges_20 (by decide) ?_
  refine w_istore d_MS_mergeEdges_21 (by decide) ?_
  exact LP (L.length + R.length + 1) 0 0 0 false [] h (by omega) (by omega) hhm wOff.rf (eInv_0 how L R)
set_option maxHeartbeats 4000000 in
set_option maxRecDepth 100000 in
theorem m_MS_mergeKeys {h : wH} {p q r how : Nat} {E0 EL EM L R : List Nat} (hm : hMS h p E0 []) (hq : hMS h q EL L) (hr : hMS h r EM R) (hdq : p + 3 ≤ q ∨ q + 3 ≤ p) (hdr : p + 3 ≤ r ∨ r + 3 ≤ p) (hL : eAsc L) (hR : eAsc R) (hLb : ∀ y ∈ L, y < 9223372036854775807) (hRb : ∀ y ∈ R, y < 9223372036854775807) (hlen : L.length + R.length ≤ 16) (hh : how ≤ 3) : PM X M_MS_mergeKeys 1 0 0 [.ref p, .ref q, .ref r, .int (nI how)] h (fun z h' => z = none ∧ hMS h' p E0 (sCmb how L R) ∧ wOff h h' p 3) := by
  have hhm := hm; obtain ⟨hf, hk, hp, ha, hb, hl1, hl2, hhf, hhk⟩ := hm
  have uhm := hq; obtain ⟨uf, uk, up, ua, ub, ul1, ul2, uhf, uhk⟩ := hq
  have vhm := hr; obtain ⟨vf, vk, vp, va, vb, vl1, vl2, vhf, vhk⟩ := hr
  refine PM.at (pl := [some (.ref p), some (.ref q), some (.ref r), some (.int (nI how)), none, none, none, none, none, none, none, none, none, none]) rfl rfl (by simp [wle, wen]) ?_
  generalize hEN : wEm X 0 0 _ = EN
  have LP : ∀ (n : Nat) (i j s : Nat) (acc : List Nat) (h3 : wH), (L.length + R.length - (i + j) < n) → (s ≤ i + j) → (hMS h3 p E0 acc) → (wOff h h3 p 3) → (sInv how L R i j acc) → WP X M_MS_mergeKeys (wR 1 0 0) 0 EN 0 0 20 [some (.ref p), some (.ref q), some (.ref r), some (.int (nI how)), some (.int (nI i)), some (.int (nI j)), some (.int (nI (L.length + R.length))), some (.int (nI s)), none, none, none, none, none, none] [] h3 := by
    intro n
    induction n with
    | zero => intro i j s acc h3 k1 k2 k3 k4 k5; omega
    | succ n ih =>
      intro i j s acc h3 k1 k2 k3 k4 k5
      obtain ⟨gf, gk, gp, ga, gb, gl1, gl2, ghf, ghk⟩ := uhm.off k4 (by omega)
      obtain ⟨wf, wk, wp, wa, wb, wl1, wl2, whf, whk⟩ := vhm.off k4 (by omega)
      have tm := k3; obtain ⟨tf, tk, tp, ta, tb, tl1, tl2, thf, thk⟩ := tm
      have q1 := k5.1
      have q2 := k5.2.1
      have q6 := k5.2.2.2.1
      refine w_iload d_MS_mergeKeys_20 rfl ?_
      refine w_iload d_MS_mergeKeys_22 rfl ?_
      refine w_icmp_ge (tgt := 177) d_MS_mergeKeys_24 rfl (fun c24 => ?_) (fun c24 => ?_)
      · have c24 := (nI_leI (a := L.length + R.length) (b := s) (by omega) (by omega)).mp c24
        rw [← hEN]
        refine w_vret d_MS_mergeKeys_177 rfl ?_
        have hi9 : i = L.length := by omega
        have hj9 : j = R.length := by omega
        subst hi9; subst hj9
        refine ⟨rfl, ?_, k4⟩
        rw [← sInv_end k5]
        exact k3
      · have c24 : s < L.length + R.length := Nat.not_le.mp (fun z => c24 ((nI_leI (a := L.length + R.length) (b := s) (by omega) (by omega)).mpr z))
        refine w_iload d_MS_mergeKeys_27 rfl ?_
        refine w_aload_n d_MS_mergeKeys_29 rfl rfl ?_
        refine w_get d_MS_mergeKeys_30 f_MS_25 gp rfl ?_
        suffices J45 : (i < L.length ∨ j < R.length) → WP X M_MS_mergeKeys (wR 1 0 0) 0 EN 0 0 45 [some (.ref p), some (.ref q), some (.ref r), some (.int (nI how)), some (.int (nI i)), some (.int (nI j)), some (.int (nI (L.length + R.length))), some (.int (nI s)), none, none, none, none, none, none] [] h3 by
          refine w_icmp_lt (tgt := 45) d_MS_mergeKeys_33 rfl (fun c33 => ?_) (fun c33 => ?_)
          · have c33 := (nI_ltI (a := i) (b := L.length) (by omega) (by omega)).mp c33
            exact J45 (Or.inl c33)
          · have c33 : ¬ i < L.length := fun z => c33 ((nI_ltI (a := i) (b := L.length) (by omega) (by omega)).mpr z)
            refine w_iload d_MS_mergeKeys_36 rfl ?_
            refine w_aload_n d_MS_mergeKeys_38 rfl rfl ?_
            refine w_get d_MS_mergeKeys_39 f_MS_25 wp rfl ?_
            refine w_icmp_ge (tgt := 177) d_MS_mergeKeys_42 rfl (fun c42 => ?_) (fun c42 => ?_)
            · have c42 := (nI_leI (a := R.length) (b := j) (by omega) (by omega)).mp c42
              rw [← hEN]
              refine w_vret d_MS_mergeKeys_177 rfl ?_
              have hi9 : i = L.length := by omega
              have hj9 : j = R.length := by omega
              subst hi9; subst hj9
              refine ⟨rfl, ?_, k4⟩
              rw [← sInv_end k5]
              exact k3
            · have c42 : j < R.length := Nat.not_le.mp (fun z => c42 ((nI_leI (a := R.length) (b := j) (by omega) (by omega)).mpr z))
              exact J45 (Or.inr c42)
        intro hij
        refine w_iload d_MS_mergeKeys_45 rfl ?_
        refine w_aload_n d_MS_mergeKeys_47 rfl rfl ?_
        refine w_get d_MS_mergeKeys_48 f_MS_25 gp rfl ?_
        suffices J67 : ∀ a : Nat, ((i < L.length ∧ L[i]? = some a) ∨ (L.length ≤ i ∧ a = 9223372036854775807)) → WP X M_MS_mergeKeys (wR 1 0 0) 0 EN 0 0 67 [some (.ref p), some (.ref q), some (.ref r), some (.int (nI how)), some (.int (nI i)), some (.int (nI j)), some (.int (nI (L.length + R.length))), some (.int (nI s)), none, none, none, none, none, none] [.long (lN a)] h3 by
          refine w_icmp_ge (tgt := 64) d_MS_mergeKeys_51 rfl (fun c51 => ?_) (fun c51 => ?_)
          · have c51 := (nI_leI (a := L.length) (b := i) (by omega) (by omega)).mp c51
            refine w_ldc2 (v := lN 9223372036854775807) d_MS_mergeKeys_64 k_MS_57 ?_
            exact J67 9223372036854775807 (Or.inr ⟨c51, rfl⟩)
          · have c51 : i < L.length := Nat.not_le.mp (fun z => c51 ((nI_leI (a := L.length) (b := i) (by omega) (by omega)).mpr z))
            obtain ⟨y, hy⟩ : ∃ y, L[i]? = some y := ⟨_, List.getElem?_eq_getElem c51⟩
            refine w_aload_n d_MS_mergeKeys_54 rfl rfl ?_
            refine w_get d_MS_mergeKeys_55 f_MS_15 gp rfl ?_
            refine w_iload d_MS_mergeKeys_58 rfl ?_
            refine w_lald d_MS_mergeKeys_60 gb (vp_in_nI (by omega) (by omega)) ?_
            refine w_topl (y := lN y) (by rw [nI_clamp (by omega)]; exact ghk _ _ hy) ?_
            refine w_goto (tgt := 67) d_MS_mergeKeys_61 rfl ?_
            exact J67 y (Or.inl ⟨c51, hy⟩)
        intro a haa
        have ha31 : a ≤ 9223372036854775807 := by
          rcases haa with ⟨-, z⟩ | ⟨-, z⟩
          · exact Nat.le_of_lt (hLb a (List.mem_of_getElem? z))
          · omega
        refine w_lstore d_MS_mergeKeys_67 (by decide) ?_
        refine w_iload d_MS_mergeKeys_69 rfl ?_
        refine w_aload_n d_MS_mergeKeys_71 rfl rfl ?_
        refine w_get d_MS_mergeKeys_72 f_MS_25 wp rfl ?_
        suffices J91 : ∀ b : Nat, ((j < R.length ∧ R[j]? = some b) ∨ (R.length ≤ j ∧ b = 9223372036854775807)) → WP X M_MS_mergeKeys (wR 1 0 0) 0 EN 0 0 91 [some (.ref p), some (.ref q), some (.ref r), some (.int (nI how)), some (.int (nI i)), some (.int (nI j)), some (.int (nI (L.length + R.length))), some (.int (nI s)), some (.long (lN a)), none, none, none, none, none] [.long (lN b)] h3 by
          refine w_icmp_ge (tgt := 88) d_MS_mergeKeys_75 rfl (fun c75 => ?_) (fun c75 => ?_)
          · have c75 := (nI_leI (a := R.length) (b := j) (by omega) (by omega)).mp c75
            refine w_ldc2 (v := lN 9223372036854775807) d_MS_mergeKeys_88 k_MS_57 ?_
            exact J91 9223372036854775807 (Or.inr ⟨c75, rfl⟩)
          · have c75 : j < R.length := Nat.not_le.mp (fun z => c75 ((nI_leI (a := R.length) (b := j) (by omega) (by omega)).mpr z))
            obtain ⟨y, hy⟩ : ∃ y, R[j]? = some y := ⟨_, List.getElem?_eq_getElem c75⟩
            refine w_aload_n d_MS_mergeKeys_78 rfl rfl ?_
            refine w_get d_MS_mergeKeys_79 f_MS_15 wp rfl ?_
            refine w_iload d_MS_mergeKeys_82 rfl ?_
            refine w_lald d_MS_mergeKeys_84 wb (vp_in_nI (by omega) (by omega)) ?_
            refine w_topl (y := lN y) (by rw [nI_clamp (by omega)]; exact whk _ _ hy) ?_
            refine w_goto (tgt := 91) d_MS_mergeKeys_85 rfl ?_
            exact J91 y (Or.inl ⟨c75, hy⟩)
        intro b hbb
        have hb31 : b ≤ 9223372036854775807 := by
          rcases hbb with ⟨-, z⟩ | ⟨-, z⟩
          · exact Nat.le_of_lt (hRb b (List.mem_of_getElem? z))
          · omega
        refine w_lstore d_MS_mergeKeys_91 (by decide) ?_
        refine w_lload d_MS_mergeKeys_93 rfl ?_
        refine w_lload d_MS_mergeKeys_95 rfl ?_
        refine w_lcmp d_MS_mergeKeys_97 ?_
        suffices J108 : ∀ x : Nat, ((x = a ∧ a < b) ∨ (x = b ∧ b ≤ a)) → WP X M_MS_mergeKeys (wR 1 0 0) 0 EN 0 0 108 [some (.ref p), some (.ref q), some (.ref r), some (.int (nI how)), some (.int (nI i)), some (.int (nI j)), some (.int (nI (L.length + R.length))), some (.int (nI s)), some (.long (lN a)), none, some (.long (lN b)), none, none, none] [.long (lN x)] h3 by
          refine w_if_ge (tgt := 106) d_MS_mergeKeys_98 rfl (fun c98 => ?_) (fun c98 => ?_)
          · have c98 : b ≤ a := (pk_lLE (by omega) (by omega)).mp ((lg_cmp_ge _ _).mp c98)
            refine w_lload d_MS_mergeKeys_106 rfl ?_
            exact J108 b (Or.inr ⟨rfl, c98⟩)
          · have c98 : a < b := Nat.not_le.mp (fun z => c98 ((lg_cmp_ge _ _).mpr ((pk_lLE (by omega) (by omega)).mpr z)))
            refine w_lload d_MS_mergeKeys_101 rfl ?_
            refine w_goto (tgt := 108) d_MS_mergeKeys_103 rfl ?_
            exact J108 a (Or.inl ⟨rfl, c98⟩)
        intro x hxx
        have hxM : x < 9223372036854775807 := mk1 haa hbb hxx hij hLb hRb
        refine w_lstore d_MS_mergeKeys_108 (by decide) ?_
        refine w_lload d_MS_mergeKeys_110 rfl ?_
        refine w_lload d_MS_mergeKeys_112 rfl ?_
        refine w_lcmp d_MS_mergeKeys_114 ?_
        suffices J123 : WP X M_MS_mergeKeys (wR 1 0 0) 0 EN 0 0 123 [some (.ref p), some (.ref q), some (.ref r), some (.int (nI how)), some (.int (nI i)), some (.int (nI j)), some (.int (nI (L.length + R.length))), some (.int (nI s)), some (.long (lN a)), none, some (.long (lN b)), none, some (.long (lN x)), none] [.int (bI (decide (a = x)))] h3 by
          refine w_if_ne (tgt := 122) d_MS_mergeKeys_115 rfl (fun c115 => ?_) (fun c115 => ?_)
          · have c115 : ¬ a = x := fun z => c115 (by rw [z]; exact lg_cmp_self _)
            refine w_iconst (v := nI 0) d_MS_mergeKeys_122 (by decide) ?_
            rw [decide_eq_false c115] at J123; exact J123
          · have c115 : a = x := (pk_lEQ (by omega) (by omega)).mp (lg_cmp_0 c115)
            refine w_iconst (v := nI 1) d_MS_mergeKeys_118 (by decide) ?_
            refine w_goto (tgt := 123) d_MS_mergeKeys_119 rfl ?_
            rw [decide_eq_true c115] at J123; exact J123
        refine w_lload d_MS_mergeKeys_123 rfl ?_
        refine w_lload d_MS_mergeKeys_125 rfl ?_
        refine w_lcmp d_MS_mergeKeys_127 ?_
        suffices J136 : WP X M_MS_mergeKeys (wR 1 0 0) 0 EN 0 0 136 [some (.ref p), some (.ref q), some (.ref r), some (.int (nI how)), some (.int (nI i)), some (.int (nI j)), some (.int (nI (L.length + R.length))), some (.int (nI s)), some (.long (lN a)), none, some (.long (lN b)), none, some (.long (lN x)), none] [.int (bI (decide (b = x))), .int (bI (decide (a = x)))] h3 by
          refine w_if_ne (tgt := 135) d_MS_mergeKeys_128 rfl (fun c128 => ?_) (fun c128 => ?_)
          · have c128 : ¬ b = x := fun z => c128 (by rw [z]; exact lg_cmp_self _)
            refine w_iconst (v := nI 0) d_MS_mergeKeys_135 (by decide) ?_
            rw [decide_eq_false c128] at J136; exact J136
          · have c128 : b = x := (pk_lEQ (by omega) (by omega)).mp (lg_cmp_0 c128)
            refine w_iconst (v := nI 1) d_MS_mergeKeys_131 (by decide) ?_
            refine w_goto (tgt := 136) d_MS_mergeKeys_132 rfl ?_
            rw [decide_eq_true c128] at J136; exact J136
        refine w_iload_n d_MS_mergeKeys_136 rfl ?_
        refine w_callS (as := [.int (bI (decide (a = x))), .int (bI (decide (b = x))), .int (nI how)]) (st := []) d_MS_mergeKeys_137 yM_MS_isKept l_MS_53 sM_MS_isKept rfl rfl (m_MS_isKept hh) (by decide) (by decide) (by decide) (by decide) (Nat.le_of_ble_eq_true rfl) ?_
        rintro _ h9_1 ⟨rfl, e9_1⟩
        rw [e9_1]
        refine w_eq (st' := [.int (bI (eDec how (decide (a = x)) (decide (b = x))))]) rfl ?_
        have hi0 := mk2 haa (by omega) hxM
        have hj0 := mk2 hbb (by omega) hxM
        have T149 : ∀ (acc' : List Nat) (h5 : wH), hMS h5 p E0 acc' → wOff h h5 p 3 → acc' = (if eDec how (decide (a = x)) (decide (b = x)) = true then acc ++ [x] else acc) → WP X M_MS_mergeKeys (wR 1 0 0) 0 EN 0 0 149 [some (.ref p), some (.ref q), some (.ref r), some (.int (nI how)), some (.int (nI i)), some (.int (nI j)), some (.int (nI (L.length + R.length))), some (.int (nI s)), some (.long (lN a)), none, some (.long (lN b)), none, some (.long (lN x)), none] [] h5 := by
          intro acc' h5 hm5 ho5 hacc
          refine w_lload d_MS_mergeKeys_149 rfl ?_
          refine w_lload d_MS_mergeKeys_151 rfl ?_
          refine w_lcmp d_MS_mergeKeys_153 ?_
          refine w_if_ne (tgt := 160) d_MS_mergeKeys_154 rfl (fun c154 => ?_) (fun c154 => ?_)
          · have c154 : ¬ a = x := fun z => c154 (by rw [z]; exact lg_cmp_self _)
            refine w_lload d_MS_mergeKeys_160 rfl ?_
            refine w_lload d_MS_mergeKeys_162 rfl ?_
            refine w_lcmp d_MS_mergeKeys_164 ?_
            refine w_if_ne (tgt := 171) d_MS_mergeKeys_165 rfl (fun c165 => ?_) (fun c165 => ?_)
            · have c165 : ¬ b = x := fun z => c165 (by rw [z]; exact lg_cmp_self _)
              refine w_iinc (v := nI (s + 1)) d_MS_mergeKeys_171 rfl (nI_1 _) (by decide) ?_
              refine w_goto (tgt := 20) d_MS_mergeKeys_174 rfl ?_
              refine w_le (pl' := [some (.ref p), some (.ref q), some (.ref r), some (.int (nI how)), some (.int (nI i)), some (.int (nI j)), some (.int (nI (L.length + R.length))), some (.int (nI (s + 1))), none, none, none, none, none, none]) ⟨rfl, rfl, rfl, rfl, rfl, rfl, rfl, rfl, trivial⟩ ?_
              have hne : i ≠ i ∨ j ≠ j := by omega
              have hst := sInv_step hL hR k5 (i' := i) (j' := j) (x := x) (Or.inl ⟨rfl, hi0.1 c154⟩) (Or.inl ⟨rfl, hj0.1 c165⟩) hne
              rw [decide_eq_false c154, decide_eq_false c165] at hacc
              simp at hst hacc
              exact ih (i) (j) (s + 1) acc' h5 (by omega) (by omega) hm5 ho5 (by rw [hacc]; first | exact hst | (simp; exact hst))
            · have c165 : b = x := (pk_lEQ (by omega) (by omega)).mp (lg_cmp_0 c165)
              refine w_iinc (v := nI (j + 1)) d_MS_mergeKeys_168 rfl (nI_1 _) (by decide) ?_
              refine w_iinc (v := nI (s + 1)) d_MS_mergeKeys_171 rfl (nI_1 _) (by decide) ?_
              refine w_goto (tgt := 20) d_MS_mergeKeys_174 rfl ?_
              refine w_le (pl' := [some (.ref p), some (.ref q), some (.ref r), some (.int (nI how)), some (.int (nI i)), some (.int (nI (j + 1))), some (.int (nI (L.length + R.length))), some (.int (nI (s + 1))), none, none, none, none, none, none]) ⟨rfl, rfl, rfl, rfl, rfl, rfl, rfl, rfl, trivial⟩ ?_
              have hne : i ≠ i ∨ j + 1 ≠ j := by omega
              have hst := sInv_step hL hR k5 (i' := i) (j' := j + 1) (x := x) (Or.inl ⟨rfl, hi0.1 c154⟩) (Or.inr ⟨rfl, hj0.2 c165⟩) hne
              rw [decide_eq_false c154, decide_eq_true c165] at hacc
              simp at hst hacc
              exact ih (i) (j + 1) (s + 1) acc' h5 (by omega) (by omega) hm5 ho5 (by rw [hacc]; first | exact hst | (simp; exact hst))
          · have c154 : a = x := (pk_lEQ (by omega) (by omega)).mp (lg_cmp_0 c154)
            refine w_iinc (v := nI (i + 1)) d_MS_mergeKeys_157 rfl (nI_1 _) (by decide) ?_
            refine w_lload d_MS_mergeKeys_160 rfl ?_
            refine w_lload d_MS_mergeKeys_162 rfl ?_
            refine w_lcmp d_MS_mergeKeys_164 ?_
            refine w_if_ne (tgt := 171) d_MS_mergeKeys_165 rfl (fun c165 => ?_) (fun c165 => ?_)
            · have c165 : ¬ b = x := fun z => c165 (by rw [z]; exact lg_cmp_self _)
              refine w_iinc (v := nI (s + 1)) d_MS_mergeKeys_171 rfl (nI_1 _) (by decide) ?_
              refine w_goto (tgt := 20) d_MS_mergeKeys_174 rfl ?_
              refine w_le (pl' := [some (.ref p), some (.ref q), some (.ref r), some (.int (nI how)), some (.int (nI (i + 1))), some (.int (nI j)), some (.int (nI (L.length + R.length))), some (.int (nI (s + 1))), none, none, none, none, none, none]) ⟨rfl, rfl, rfl, rfl, rfl, rfl, rfl, rfl, trivial⟩ ?_
              have hne : i + 1 ≠ i ∨ j ≠ j := by omega
              have hst := sInv_step hL hR k5 (i' := i + 1) (j' := j) (x := x) (Or.inr ⟨rfl, hi0.2 c154⟩) (Or.inl ⟨rfl, hj0.1 c165⟩) hne
              rw [decide_eq_true c154, decide_eq_false c165] at hacc
              simp at hst hacc
              exact ih (i + 1) (j) (s + 1) acc' h5 (by omega) (by omega) hm5 ho5 (by rw [hacc]; first | exact hst | (simp; exact hst))
            · have c165 : b = x := (pk_lEQ (by omega) (by omega)).mp (lg_cmp_0 c165)
              refine w_iinc (v := nI (j + 1)) d_MS_mergeKeys_168 rfl (nI_1 _) (by decide) ?_
              refine w_iinc (v := nI (s + 1)) d_MS_mergeKeys_171 rfl (nI_1 _) (by decide) ?_
              refine w_goto (tgt := 20) d_MS_mergeKeys_174 rfl ?_
              refine w_le (pl' := [some (.ref p), some (.ref q), some (.ref r), some (.int (nI how)), some (.int (nI (i + 1))), some (.int (nI (j + 1))), some (.int (nI (L.length + R.length))), some (.int (nI (s + 1))), none, none, none, none, none, none]) ⟨rfl, rfl, rfl, rfl, rfl, rfl, rfl, rfl, trivial⟩ ?_
              have hne : i + 1 ≠ i ∨ j + 1 ≠ j := by omega
              have hst := sInv_step hL hR k5 (i' := i + 1) (j' := j + 1) (x := x) (Or.inr ⟨rfl, hi0.2 c154⟩) (Or.inr ⟨rfl, hj0.2 c165⟩) hne
              rw [decide_eq_true c154, decide_eq_true c165] at hacc
              simp at hst hacc
              exact ih (i + 1) (j + 1) (s + 1) acc' h5 (by omega) (by omega) hm5 ho5 (by rw [hacc]; first | exact hst | (simp; exact hst))
        refine w_if_eq (tgt := 149) d_MS_mergeKeys_140 rfl (fun c140 => ?_) (fun c140 => ?_)
        · have c140 : ¬ eDec how (decide (a = x)) (decide (b = x)) = true := fun z => by rw [z] at c140; exact absurd c140 (by decide)
          exact T149 acc h3 k3 k4 (by rw [if_neg c140])
        · have c140 : eDec how (decide (a = x)) (decide (b = x)) = true := by cases hz : eDec how (decide (a = x)) (decide (b = x)) with | true => rfl | false => rw [hz] at c140; exact absurd rfl c140
          refine w_aload_n d_MS_mergeKeys_143 rfl rfl ?_
          refine w_lload d_MS_mergeKeys_144 rfl ?_
          refine w_callV (as := [.long (lN x)]) (st := []) d_MS_mergeKeys_146 yM_MS_appendKey l_MS_41 vM_MS_appendKey tp rfl rfl rfl rfl (m_MS_appendKey k3 (by omega)) (by decide) (by decide) (by decide) (by decide) (Nat.le_of_ble_eq_true rfl) ?_
          rintro _ h4 ⟨rfl, hm4, ho4⟩
          refine w_eq (st' := []) rfl ?_
          exact T149 (acc ++ [x]) h4 hm4 (k4.tr ho4) (by rw [if_pos c140])
  refine w_iconst (v := nI 0) d_MS_mergeKeys_0 (by decide) ?_
  refine w_istore d_MS_mergeKeys_1 (by decide) ?_
  refine w_iconst (v := nI 0) d_MS_mergeKeys_3 (by decide) ?_
  refine w_istore d_MS_mergeKeys_4 (by decide) ?_
  refine w_aload_n d_MS_mergeKeys_6 rfl rfl ?_
  refine w_get d_MS_mergeKeys_7 f_MS_25 up rfl ?_
  refine w_aload_n d_MS_mergeKeys_10 rfl rfl ?_
  refine w_get d_MS_mergeKeys_11 f_MS_25 vp rfl ?_
  refine w_iadd d_MS_mergeKeys_14 ?_
  refine w_topi (y := nI (L.length + R.length)) (nI_add _ _) ?_
  refine w_istore d_MS_mergeKeys_15 (by decide) ?_
  refine w_iconst (v := nI 0) d_MS_mergeKeys_17 (by decide) ?_
  refine w_istore d_MS_mergeKeys_18 (by decide) ?_
  exact LP (L.length + R.length + 1) 0 0 0 [] h (by omega) (by omega) hhm wOff.rf (sInv_0 how L R)
set_option maxHeartbeats 4000000 in
set_option maxRecDepth 100000 in
theorem m_MS_becomeMerge {h : wH} {p q r how : Nat} {E0 S0 L SL R SR : List Nat} (hm : hMS h p E0 S0) (hq : hMS h q L SL) (hr : hMS h r R SR) (hdq : p + 3 ≤ q ∨ q + 3 ≤ p) (hdr : p + 3 ≤ r ∨ r + 3 ≤ p) (hL : eOk L) (hR : eOk R) (hlen : L.length + R.length ≤ 400) (hSL : eAsc SL) (hSR : eAsc SR) (hLb : ∀ y ∈ SL, y < 9223372036854775807) (hRb : ∀ y ∈ SR, y < 9223372036854775807) (hslen : SL.length + SR.length ≤ 16) (hh : how ≤ 3) : PM X M_MS_becomeMerge 2 0 0 [.ref p, .ref q, .ref r, .int (nI how)] h (fun z h' => z = none ∧ hMS h' p (eCmb how L R) (sCmb how SL SR) ∧ wOff h h' p 3) := by
  have hhm := hm; obtain ⟨hf, hk, hp, ha, hb, hl1, hl2, hhf, hhk⟩ := hm
  refine PM.at (pl := [some (.ref p), some (.ref q), some (.ref r), some (.int (nI how))]) rfl rfl (by simp [wle, wen]) ?_
  generalize hEN : wEm X 0 0 _ = EN
  refine w_aload_n d_MS_becomeMerge_0 rfl rfl ?_
  refine w_callV (as := []) (st := []) d_MS_becomeMerge_1 yM_MS_clear l_MS_34 vM_MS_clear hp rfl rfl rfl rfl (m_MS_clear hhm) (by decide) (by decide) (by decide) (by decide) (Nat.le_of_ble_eq_true rfl) ?_
  rintro _ h1 ⟨rfl, hm1, ho1⟩
  refine w_eq (st' := []) rfl ?_
  have xm := hm1; obtain ⟨xf, xk, xp, xa, xb, xl1, xl2, xhf, xhk⟩ := hm1
  refine w_aload_n d_MS_becomeMerge_4 rfl rfl ?_
  refine w_aload_n d_MS_becomeMerge_5 rfl rfl ?_
  refine w_aload_n d_MS_becomeMerge_6 rfl rfl ?_
  refine w_iload_n d_MS_becomeMerge_7 rfl ?_
  refine w_callV (as := [.ref q, .ref r, .int (nI how)]) (st := []) d_MS_becomeMerge_8 yM_MS_mergeEdges l_MS_46 vM_MS_mergeEdges xp rfl rfl rfl rfl (m_MS_mergeEdges xm (hq.off ho1 (by omega)) (hr.off ho1 (by omega)) hdq hdr hL hR hlen hh) (by decide) (by decide) (by decide) (by decide) (Nat.le_of_ble_eq_true rfl) ?_
  rintro _ h2 ⟨rfl, hm2, ho2⟩
  refine w_eq (st' := []) rfl ?_
  have ym := hm2; obtain ⟨yf, yk, yp, ya, yb, yl1, yl2, yhf, yhk⟩ := hm2
  refine w_aload_n d_MS_becomeMerge_11 rfl rfl ?_
  refine w_aload_n d_MS_becomeMerge_12 rfl rfl ?_
  refine w_aload_n d_MS_becomeMerge_13 rfl rfl ?_
  refine w_iload_n d_MS_becomeMerge_14 rfl ?_
  refine w_callV (as := [.ref q, .ref r, .int (nI how)]) (st := []) d_MS_becomeMerge_15 yM_MS_mergeKeys l_MS_50 vM_MS_mergeKeys yp rfl rfl rfl rfl (m_MS_mergeKeys ym (hq.off (ho1.tr ho2) (by omega)) (hr.off (ho1.tr ho2) (by omega)) hdq hdr hSL hSR hLb hRb hslen hh) (by decide) (by decide) (by decide) (by decide) (Nat.le_of_ble_eq_true rfl) ?_
  rintro _ h3 ⟨rfl, hm3, ho3⟩
  refine w_eq (st' := []) rfl ?_
  rw [← hEN]
  refine w_vret d_MS_becomeMerge_18 rfl ?_
  exact ⟨rfl, hm3, (ho1.tr ho2).tr ho3⟩
end MS3
