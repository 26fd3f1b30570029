/-! CodePointSets.span: written by wip/gen/cp3.py -/
theorem bit_shr {b s : Nat} (hb : b < 2 ^ 61) (hs : s < 64) : lN b >>> ((nI s).toInt64 &&& 63) = lN (b / 2 ^ s) := by
  rw [wb_c s hs]
  exact kshr (by rw [wb_tb, wb_sm s hs, BitVec.toNat_ofNat]; omega) (by omega)
theorem bit_shl {k : Nat} (hk : k < 64) : lN 1 <<< ((nI k).toInt64 &&& 63) = lN (2 ^ k) := by rw [wb_shl 1 hk, Nat.one_mul]
theorem bit_lt {k : Nat} (hk : k ≤ 60) : 2 ^ k < 2 ^ 61 := wb_lt2 (by omega)
theorem bit_or {b k : Nat} (hb : b < 2 ^ 61) (hk : k ≤ 60) : lN b ||| lN (2 ^ k) = lN (b ||| 2 ^ k) := wb_or (by omega) (by have := bit_lt hk; omega)
theorem bit_or_lt {b k : Nat} (hb : b < 2 ^ 61) (hk : k ≤ 60) : b ||| 2 ^ k < 2 ^ 61 := Nat.or_lt_two_pow hb (bit_lt hk)
theorem bit_or_t {b k : Nat} (j : Nat) : (b ||| 2 ^ k).testBit j = (b.testBit j || decide (j = k)) := by
  rw [Nat.testBit_or, Nat.testBit_two_pow]
  congr 1
  exact decide_eq_decide.mpr eq_comm
theorem bit_and {b : Nat} (hb : b < 2 ^ 64) : lN b &&& lN 1 = lN (b % 2) := wb_mask (k := 1) hb (by decide)
theorem bit_t {b s : Nat} (h : ¬ lg_cmp (lN (b / 2 ^ s % 2)) (lN 0) = 0) : b.testBit s = true := by
  rw [Nat.testBit_eq_decide_div_mod_eq]
  rcases Nat.mod_two_eq_zero_or_one (b / 2 ^ s) with z | z
  · rw [z] at h
    exact absurd (lg_cmp_self _) h
  · rw [z]; rfl
theorem bit_f {b s : Nat} (h : lg_cmp (lN (b / 2 ^ s % 2)) (lN 0) = 0) : b.testBit s = false := by
  rw [Nat.testBit_eq_decide_div_mod_eq]
  rcases Nat.mod_two_eq_zero_or_one (b / 2 ^ s) with z | z
  · rw [z]; rfl
  · rw [z] at h
    have := lg_cmp_0 h
    exact absurd this (by decide)
theorem tM_len {E S t : List Nat} {k n : Nat} (h : tM E S t k n = true) : k + n ≤ t.length := by
  by_cases hb : 1 ≤ n ∧ n ≤ 3 ∧ k + n ≤ t.length
  · exact hb.2.2
  · rw [tM_bad hb] at h; cases h
section CP3
variable {X : wX}
set_option maxHeartbeats 4000000 in
set_option maxRecDepth 100000 in
theorem m_CP_begin {h : wH} {t : List Nat} {G : gG} {sp : Nat} {Es Ss : List Nat} {pr : Nat → Nat} (hq : hCQ h t G sp Es Ss pr) {q f0 : Nat} {E S : List Nat} (hm : hMS h q E S) (hA : eAsc E) (hE : ∀ y ∈ E, y < 2 ^ 31) (hS : ∀ y ∈ S, sOk y) (ht : ∀ x ∈ t, x < 1114112) (hf : f0 ≤ t.length) : PM X M_CP_beginOfMember 2 0 0 [.ref 0, .ref q, .int (nI f0)] h (fun z h' => z = some (.int (nI (sB0 E S t (t.length - f0) f0))) ∧ h' = h) := by
  have hq0 := hq; obtain ⟨hp, htx, ⟨f, har, hfr⟩, hrg, hss, ⟨A0, A1, hal⟩, ⟨o0, hwr⟩, hrd, p1, p2, p3, p4⟩ := hq
  obtain ⟨tf, tp, ta, t60, thf⟩ := id htx
  obtain ⟨res, hres⟩ : ∃ res, res = sB0 E S t (t.length - f0) f0 := ⟨_, rfl⟩
  rw [← hres]
  refine PM.at (pl := [some (.ref 0), some (.ref q), some (.int (nI f0)), none, none]) rfl rfl (by simp [wle, wen]) ?_
  generalize hEN : wEm X 0 0 _ = EN
  have L : ∀ (n : Nat) (s : Nat), (t.length - s < n) → (s ≤ t.length) → (sB0 E S t (t.length - s) s = res) → WP X M_CP_beginOfMember (wR 2 0 0) 0 EN 0 0 2 [some (.ref 0), some (.ref q), some (.int (nI f0)), some (.int (nI s)), none] [] h := by
    intro n
    induction n with
    | zero => intro s k1 k2 k3; omega
    | succ n ih =>
      intro s k1 k2 k3
      refine w_iload_n d_CP_beginOfMember_2 rfl ?_
      refine w_aload_n d_CP_beginOfMember_3 rfl rfl ?_
      refine w_get d_CP_beginOfMember_4 f_CP_10 hp rfl ?_
      refine w_get d_CP_beginOfMember_7 f_CP_54 tp rfl ?_
      refine w_icmp_ge (tgt := 47) d_CP_beginOfMember_10 rfl (fun c10 => ?_) (fun c10 => ?_)
      · have c10 := (nI_leI (a := t.length) (b := s) (by omega) (by omega)).mp c10
        refine w_aload_n d_CP_beginOfMember_47 rfl rfl ?_
        refine w_get d_CP_beginOfMember_48 f_CP_10 hp rfl ?_
        refine w_get d_CP_beginOfMember_51 f_CP_54 tp rfl ?_
        rw [← hEN]
        refine w_iret d_CP_beginOfMember_54 rfl ?_
        rw [show t.length - s = 0 by omega] at k3
        unfold sB0 at k3
        rw [← k3]
        exact ⟨rfl, rfl⟩
      · have c10 : s < t.length := Nat.not_le.mp (fun z => c10 ((nI_leI (a := t.length) (b := s) (by omega) (by omega)).mpr z))
        refine w_iconst (v := nI 1) d_CP_beginOfMember_13 (by decide) ?_
        refine w_istore d_CP_beginOfMember_14 (by decide) ?_
        refine w_pl (pl' := [some (.ref 0), some (.ref q), some (.int (nI f0)), some (.int (nI s)), some (.int (nI 1))]) rfl ?_
        refine w_iload d_CP_beginOfMember_16 rfl ?_
        refine w_iconst (v := nI 3) d_CP_beginOfMember_18 (by decide) ?_
        refine w_icmp_gt (tgt := 41) d_CP_beginOfMember_19 rfl (fun z => absurd z (by decide)) (fun _ => ?_)
        refine w_aload_n d_CP_beginOfMember_22 rfl rfl ?_
        refine w_aload_n d_CP_beginOfMember_23 rfl rfl ?_
        refine w_iload_n d_CP_beginOfMember_24 rfl ?_
        refine w_iload d_CP_beginOfMember_25 rfl ?_
        refine w_callV (as := [.ref q, .int (nI s), .int (nI 1)]) (st := []) d_CP_beginOfMember_27 yM_CP_textIsMember l_CP_123 vM_CP_textIsMember hp rfl rfl rfl rfl (m_CP_tM hq0 hm hA hE hS ht (n := 1) (by omega) (by decide)) (by decide) (by decide) (by decide) (by decide) (Nat.le_of_ble_eq_true rfl) ?_
        rintro _ h9_1 ⟨rfl, e9_1⟩
        rw [e9_1]
        refine w_eq (st' := [.int (bI (tM E S t s 1))]) rfl ?_
        refine w_if_eq (tgt := 35) d_CP_beginOfMember_30 rfl (fun c30_1 => ?_) (fun c30_1 => ?_)
        · have c30_1 := bI_f c30_1
          refine w_iinc (v := nI 2) d_CP_beginOfMember_35 rfl (by decide) (by decide) ?_
          refine w_pl (pl' := [some (.ref 0), some (.ref q), some (.int (nI f0)), some (.int (nI s)), some (.int (nI 2))]) rfl ?_
          refine w_goto (tgt := 16) d_CP_beginOfMember_38 rfl ?_
          refine w_iload d_CP_beginOfMember_16 rfl ?_
          refine w_iconst (v := nI 3) d_CP_beginOfMember_18 (by decide) ?_
          refine w_icmp_gt (tgt := 41) d_CP_beginOfMember_19 rfl (fun z => absurd z (by decide)) (fun _ => ?_)
          refine w_aload_n d_CP_beginOfMember_22 rfl rfl ?_
          refine w_aload_n d_CP_beginOfMember_23 rfl rfl ?_
          refine w_iload_n d_CP_beginOfMember_24 rfl ?_
          refine w_iload d_CP_beginOfMember_25 rfl ?_
          refine w_callV (as := [.ref q, .int (nI s), .int (nI 2)]) (st := []) d_CP_beginOfMember_27 yM_CP_textIsMember l_CP_123 vM_CP_textIsMember hp rfl rfl rfl rfl (m_CP_tM hq0 hm hA hE hS ht (n := 2) (by omega) (by decide)) (by decide) (by decide) (by decide) (by decide) (Nat.le_of_ble_eq_true rfl) ?_
          rintro _ h9_2 ⟨rfl, e9_2⟩
          rw [e9_2]
          refine w_eq (st' := [.int (bI (tM E S t s 2))]) rfl ?_
          refine w_if_eq (tgt := 35) d_CP_beginOfMember_30 rfl (fun c30_2 => ?_) (fun c30_2 => ?_)
          · have c30_2 := bI_f c30_2
            refine w_iinc (v := nI 3) d_CP_beginOfMember_35 rfl (by decide) (by decide) ?_
            refine w_pl (pl' := [some (.ref 0), some (.ref q), some (.int (nI f0)), some (.int (nI s)), some (.int (nI 3))]) rfl ?_
            refine w_goto (tgt := 16) d_CP_beginOfMember_38 rfl ?_
            refine w_iload d_CP_beginOfMember_16 rfl ?_
            refine w_iconst (v := nI 3) d_CP_beginOfMember_18 (by decide) ?_
            refine w_icmp_gt (tgt := 41) d_CP_beginOfMember_19 rfl (fun z => absurd z (by decide)) (fun _ => ?_)
            refine w_aload_n d_CP_beginOfMember_22 rfl rfl ?_
            refine w_aload_n d_CP_beginOfMember_23 rfl rfl ?_
            refine w_iload_n d_CP_beginOfMember_24 rfl ?_
            refine w_iload d_CP_beginOfMember_25 rfl ?_
            refine w_callV (as := [.ref q, .int (nI s), .int (nI 3)]) (st := []) d_CP_beginOfMember_27 yM_CP_textIsMember l_CP_123 vM_CP_textIsMember hp rfl rfl rfl rfl (m_CP_tM hq0 hm hA hE hS ht (n := 3) (by omega) (by decide)) (by decide) (by decide) (by decide) (by decide) (Nat.le_of_ble_eq_true rfl) ?_
            rintro _ h9_3 ⟨rfl, e9_3⟩
            rw [e9_3]
            refine w_eq (st' := [.int (bI (tM E S t s 3))]) rfl ?_
            refine w_if_eq (tgt := 35) d_CP_beginOfMember_30 rfl (fun c30_3 => ?_) (fun c30_3 => ?_)
            · have c30_3 := bI_f c30_3
              refine w_iinc (v := nI 4) d_CP_beginOfMember_35 rfl (by decide) (by decide) ?_
              refine w_pl (pl' := [some (.ref 0), some (.ref q), some (.int (nI f0)), some (.int (nI s)), some (.int (nI 4))]) rfl ?_
              refine w_goto (tgt := 16) d_CP_beginOfMember_38 rfl ?_
              refine w_iload d_CP_beginOfMember_16 rfl ?_
              refine w_iconst (v := nI 3) d_CP_beginOfMember_18 (by decide) ?_
              refine w_icmp_gt (tgt := 41) d_CP_beginOfMember_19 rfl (fun _ => ?_) (fun z => absurd (by decide) z)
              refine w_iinc (v := nI (s + 1)) d_CP_beginOfMember_41 rfl (nI_1 _) (by decide) ?_
              refine w_pl (pl' := [some (.ref 0), some (.ref q), some (.int (nI f0)), some (.int (nI (s + 1))), some (.int (nI 4))]) rfl ?_
              refine w_goto (tgt := 2) d_CP_beginOfMember_44 rfl ?_
              refine w_le (pl' := [some (.ref 0), some (.ref q), some (.int (nI f0)), some (.int (nI (s + 1))), none]) ⟨rfl, rfl, rfl, rfl, trivial⟩ ?_
              rw [show t.length - s = (t.length - (s + 1)) + 1 by omega] at k3
              unfold sB0 at k3
              rw [if_neg (by rw [c30_1, c30_2, c30_3]; decide)] at k3
              exact ih (s + 1) (by omega) (by omega) k3
            · have c30_3 := bI_t c30_3
              refine w_iload_n d_CP_beginOfMember_33 rfl ?_
              rw [← hEN]
              refine w_iret d_CP_beginOfMember_34 rfl ?_
              rw [show t.length - s = (t.length - s - 1) + 1 by omega] at k3
              unfold sB0 at k3
              rw [if_pos (by rw [c30_3, c30_2, c30_1]; simp)] at k3
              rw [← k3]
              exact ⟨rfl, rfl⟩
          · have c30_2 := bI_t c30_2
            refine w_iload_n d_CP_beginOfMember_33 rfl ?_
            rw [← hEN]
            refine w_iret d_CP_beginOfMember_34 rfl ?_
            rw [show t.length - s = (t.length - s - 1) + 1 by omega] at k3
            unfold sB0 at k3
            rw [if_pos (by rw [c30_2, c30_1]; simp)] at k3
            rw [← k3]
            exact ⟨rfl, rfl⟩
        · have c30_1 := bI_t c30_1
          refine w_iload_n d_CP_beginOfMember_33 rfl ?_
          rw [← hEN]
          refine w_iret d_CP_beginOfMember_34 rfl ?_
          rw [show t.length - s = (t.length - s - 1) + 1 by omega] at k3
          unfold sB0 at k3
          rw [if_pos (by rw [c30_1]; simp)] at k3
          rw [← k3]
          exact ⟨rfl, rfl⟩
  refine w_iload_n d_CP_beginOfMember_0 rfl ?_
  refine w_istore_n d_CP_beginOfMember_1 (by decide) ?_
  refine w_pl (pl' := [some (.ref 0), some (.ref q), some (.int (nI f0)), some (.int (nI f0)), none]) rfl ?_
  exact L (t.length + 1) f0 (by omega) hf hres.symm
set_option maxHeartbeats 4000000 in
set_option maxRecDepth 100000 in
theorem m_CP_end {h : wH} {t : List Nat} {G : gG} {sp : Nat} {Es Ss : List Nat} {pr : Nat → Nat} (hq : hCQ h t G sp Es Ss pr) {q f0 : Nat} {E S : List Nat} (hm : hMS h q E S) (hA : eAsc E) (hE : ∀ y ∈ E, y < 2 ^ 31) (hS : ∀ y ∈ S, sOk y) (ht : ∀ x ∈ t, x < 1114112) (hf : f0 ≤ t.length) : PM X M_CP_endOfMembers 2 0 0 [.ref 0, .ref q, .int (nI f0)] h (fun z h' => z = some (.int (nI (sE E S t (t.length + 1 - f0) f0 (fun j => decide (j = f0)) f0))) ∧ h' = h) := by
  have hq0 := hq; obtain ⟨hp, htx, ⟨f, har, hfr⟩, hrg, hss, ⟨A0, A1, hal⟩, ⟨o0, hwr⟩, hrd, p1, p2, p3, p4⟩ := hq
  obtain ⟨tf, tp, ta, t60, thf⟩ := id htx
  obtain ⟨res, hres⟩ : ∃ res, res = sE E S t (t.length + 1 - f0) f0 (fun j => decide (j = f0)) f0 := ⟨_, rfl⟩
  rw [← hres]
  refine PM.at (pl := [some (.ref 0), some (.ref q), some (.int (nI f0)), none, none, none, none, none]) rfl rfl (by simp [wle, wen]) ?_
  generalize hEN : wEm X 0 0 _ = EN
  have L : ∀ (n : Nat) (s b g : Nat), (t.length + 1 - s < n) → (s ≤ t.length + 1) → (b < 2 ^ 61) → (sE E S t (t.length + 1 - s) s (Nat.testBit b) g = res) → WP X M_CP_endOfMembers (wR 2 0 0) 0 EN 0 0 10 [some (.ref 0), some (.ref q), some (.int (nI f0)), some (.long (lN b)), none, some (.int (nI g)), some (.int (nI s)), none] [] h := by
    intro n
    induction n with
    | zero => intro s b g k1 k2 k4 k3; omega
    | succ n ih =>
      intro s b g k1 k2 k4 k3
      refine w_iload d_CP_endOfMembers_10 rfl ?_
      refine w_aload_n d_CP_endOfMembers_12 rfl rfl ?_
      refine w_get d_CP_endOfMembers_13 f_CP_10 hp rfl ?_
      refine w_get d_CP_endOfMembers_16 f_CP_54 tp rfl ?_
      refine w_icmp_gt (tgt := 83) d_CP_endOfMembers_19 rfl (fun c19 => ?_) (fun c19 => ?_)
      · have c19 := (nI_ltI (a := t.length) (b := s) (by omega) (by omega)).mp c19
        refine w_iload d_CP_endOfMembers_83 rfl ?_
        rw [← hEN]
        refine w_iret d_CP_endOfMembers_85 rfl ?_
        rw [show t.length + 1 - s = 0 by omega] at k3
        unfold sE at k3
        rw [← k3]
        exact ⟨rfl, rfl⟩
      · have c19 : s ≤ t.length := Nat.not_lt.mp (fun z => c19 ((nI_ltI (a := t.length) (b := s) (by omega) (by omega)).mpr z))
        rw [show t.length + 1 - s = (t.length + 1 - (s + 1)) + 1 by omega] at k3
        unfold sE at k3
        refine w_lload_n d_CP_endOfMembers_22 rfl ?_
        refine w_iload d_CP_endOfMembers_23 rfl ?_
        refine w_lshr d_CP_endOfMembers_25 ?_
        refine w_topl (y := lN (b / 2 ^ s)) (bit_shr k4 (by omega)) ?_
        refine w_lconst (v := lN 1) d_CP_endOfMembers_26 (by decide) ?_
        refine w_land d_CP_endOfMembers_27 ?_
        refine w_topl (y := lN (b / 2 ^ s % 2)) (bit_and (Nat.lt_of_le_of_lt (Nat.div_le_self _ _) (by omega))) ?_
        refine w_lconst (v := lN 0) d_CP_endOfMembers_28 (by decide) ?_
        refine w_lcmp d_CP_endOfMembers_29 ?_
        refine w_if_ne (tgt := 36) d_CP_endOfMembers_30 rfl (fun c30 => ?_) (fun c30 => ?_)
        · have c30 := bit_t c30
          rw [if_pos c30] at k3
          refine w_iload d_CP_endOfMembers_36 rfl ?_
          refine w_istore d_CP_endOfMembers_38 (by decide) ?_
          refine w_pl (pl' := [some (.ref 0), some (.ref q), some (.int (nI f0)), some (.long (lN b)), none, some (.int (nI s)), some (.int (nI s)), none]) rfl ?_
          refine w_iconst (v := nI 1) d_CP_endOfMembers_40 (by decide) ?_
          refine w_istore d_CP_endOfMembers_41 (by decide) ?_
          refine w_pl (pl' := [some (.ref 0), some (.ref q), some (.int (nI f0)), some (.long (lN b)), none, some (.int (nI s)), some (.int (nI s)), some (.int (nI 1))]) rfl ?_
          refine w_iload d_CP_endOfMembers_43 rfl ?_
          refine w_iconst (v := nI 3) d_CP_endOfMembers_45 (by decide) ?_
          refine w_icmp_gt (tgt := 77) d_CP_endOfMembers_46 rfl (fun z => absurd z (by decide)) (fun _ => ?_)
          refine w_aload_n d_CP_endOfMembers_49 rfl rfl ?_
          refine w_aload_n d_CP_endOfMembers_50 rfl rfl ?_
          refine w_iload d_CP_endOfMembers_51 rfl ?_
          refine w_iload d_CP_endOfMembers_53 rfl ?_
          refine w_callV (as := [.ref q, .int (nI s), .int (nI 1)]) (st := []) d_CP_endOfMembers_55 yM_CP_textIsMember l_CP_123 vM_CP_textIsMember hp rfl rfl rfl rfl (m_CP_tM hq0 hm hA hE hS ht (n := 1) (by omega) (by decide)) (by decide) (by decide) (by decide) (by decide) (Nat.le_of_ble_eq_true rfl) ?_
          rintro _ h9_1 ⟨rfl, e9_1⟩
          rw [e9_1]
          refine w_eq (st' := [.int (bI (tM E S t s 1))]) rfl ?_
          suffices J1 : ∀ b1 : Nat, (b1 < 2 ^ 61 ∧ ∀ j, b1.testBit j = (b.testBit j || (tM E S t s 1 && decide (j = s + 1)))) → WP X M_CP_endOfMembers (wR 2 0 0) 0 EN 0 0 71 [some (.ref 0), some (.ref q), some (.int (nI f0)), some (.long (lN b1)), none, some (.int (nI s)), some (.int (nI s)), some (.int (nI 1))] [] h by
            refine w_if_eq (tgt := 71) d_CP_endOfMembers_58 rfl (fun c58_1 => ?_) (fun c58_1 => ?_)
            · have c58_1 := bI_f c58_1
              exact J1 b ⟨k4, fun j => by rw [c58_1]; simp⟩
            · refine w_lload_n d_CP_endOfMembers_61 rfl ?_
              refine w_lconst (v := lN 1) d_CP_endOfMembers_62 (by decide) ?_
              refine w_iload d_CP_endOfMembers_63 rfl ?_
              refine w_iload d_CP_endOfMembers_65 rfl ?_
              have tl := tM_len (bI_t c58_1)
              refine w_iadd d_CP_endOfMembers_67 ?_
              refine w_topi (y := nI (s + 1)) (nI_add _ _) ?_
              refine w_lshl d_CP_endOfMembers_68 ?_
              refine w_topl (y := lN (2 ^ (s + 1))) (bit_shl (by omega)) ?_
              refine w_lor d_CP_endOfMembers_69 ?_
              refine w_topl (y := lN (b ||| 2 ^ (s + 1))) (bit_or k4 (by omega)) ?_
              refine w_lstore_n d_CP_endOfMembers_70 (by decide) ?_
              refine w_pl (pl' := [some (.ref 0), some (.ref q), some (.int (nI f0)), some (.long (lN (b ||| 2 ^ (s + 1)))), none, some (.int (nI s)), some (.int (nI s)), some (.int (nI 1))]) rfl ?_
              exact J1 (b ||| 2 ^ (s + 1)) ⟨bit_or_lt k4 (by omega), fun j => by rw [bit_or_t, bI_t c58_1, Bool.true_and]⟩
          intro b1 y1
          refine w_iinc (v := nI 2) d_CP_endOfMembers_71 rfl (by decide) (by decide) ?_
          refine w_pl (pl' := [some (.ref 0), some (.ref q), some (.int (nI f0)), some (.long (lN b1)), none, some (.int (nI s)), some (.int (nI s)), some (.int (nI 2))]) rfl ?_
          refine w_goto (tgt := 43) d_CP_endOfMembers_74 rfl ?_
          refine w_iload d_CP_endOfMembers_43 rfl ?_
          refine w_iconst (v := nI 3) d_CP_endOfMembers_45 (by decide) ?_
          refine w_icmp_gt (tgt := 77) d_CP_endOfMembers_46 rfl (fun z => absurd z (by decide)) (fun _ => ?_)
          refine w_aload_n d_CP_endOfMembers_49 rfl rfl ?_
          refine w_aload_n d_CP_endOfMembers_50 rfl rfl ?_
          refine w_iload d_CP_endOfMembers_51 rfl ?_
          refine w_iload d_CP_endOfMembers_53 rfl ?_
          refine w_callV (as := [.ref q, .int (nI s), .int (nI 2)]) (st := []) d_CP_endOfMembers_55 yM_CP_textIsMember l_CP_123 vM_CP_textIsMember hp rfl rfl rfl rfl (m_CP_tM hq0 hm hA hE hS ht (n := 2) (by omega) (by decide)) (by decide) (by decide) (by decide) (by decide) (Nat.le_of_ble_eq_true rfl) ?_
          rintro _ h9_2 ⟨rfl, e9_2⟩
          rw [e9_2]
          refine w_eq (st' := [.int (bI (tM E S t s 2))]) rfl ?_
          suffices J2 : ∀ b2 : Nat, (b2 < 2 ^ 61 ∧ ∀ j, b2.testBit j = (b1.testBit j || (tM E S t s 2 && decide (j = s + 2)))) → WP X M_CP_endOfMembers (wR 2 0 0) 0 EN 0 0 71 [some (.ref 0), some (.ref q), some (.int (nI f0)), some (.long (lN b2)), none, some (.int (nI s)), some (.int (nI s)), some (.int (nI 2))] [] h by
            refine w_if_eq (tgt := 71) d_CP_endOfMembers_58 rfl (fun c58_2 => ?_) (fun c58_2 => ?_)
            · have c58_2 := bI_f c58_2
              exact J2 b1 ⟨y1.1, fun j => by rw [c58_2]; simp⟩
            · refine w_lload_n d_CP_endOfMembers_61 rfl ?_
              refine w_lconst (v := lN 1) d_CP_endOfMembers_62 (by decide) ?_
              refine w_iload d_CP_endOfMembers_63 rfl ?_
              refine w_iload d_CP_endOfMembers_65 rfl ?_
              have tl := tM_len (bI_t c58_2)
              refine w_iadd d_CP_endOfMembers_67 ?_
              refine w_topi (y := nI (s + 2)) (nI_add _ _) ?_
              refine w_lshl d_CP_endOfMembers_68 ?_
              refine w_topl (y := lN (2 ^ (s + 2))) (bit_shl (by omega)) ?_
              refine w_lor d_CP_endOfMembers_69 ?_
              refine w_topl (y := lN (b1 ||| 2 ^ (s + 2))) (bit_or y1.1 (by omega)) ?_
              refine w_lstore_n d_CP_endOfMembers_70 (by decide) ?_
              refine w_pl (pl' := [some (.ref 0), some (.ref q), some (.int (nI f0)), some (.long (lN (b1 ||| 2 ^ (s + 2)))), none, some (.int (nI s)), some (.int (nI s)), some (.int (nI 2))]) rfl ?_
              exact J2 (b1 ||| 2 ^ (s + 2)) ⟨bit_or_lt y1.1 (by omega), fun j => by rw [bit_or_t, bI_t c58_2, Bool.true_and]⟩
          intro b2 y2
          refine w_iinc (v := nI 3) d_CP_endOfMembers_71 rfl (by decide) (by decide) ?_
          refine w_pl (pl' := [some (.ref 0), some (.ref q), some (.int (nI f0)), some (.long (lN b2)), none, some (.int (nI s)), some (.int (nI s)), some (.int (nI 3))]) rfl ?_
          refine w_goto (tgt := 43) d_CP_endOfMembers_74 rfl ?_
          refine w_iload d_CP_endOfMembers_43 rfl ?_
          refine w_iconst (v := nI 3) d_CP_endOfMembers_45 (by decide) ?_
          refine w_icmp_gt (tgt := 77) d_CP_endOfMembers_46 rfl (fun z => absurd z (by decide)) (fun _ => ?_)
          refine w_aload_n d_CP_endOfMembers_49 rfl rfl ?_
          refine w_aload_n d_CP_endOfMembers_50 rfl rfl ?_
          refine w_iload d_CP_endOfMembers_51 rfl ?_
          refine w_iload d_CP_endOfMembers_53 rfl ?_
          refine w_callV (as := [.ref q, .int (nI s), .int (nI 3)]) (st := []) d_CP_endOfMembers_55 yM_CP_textIsMember l_CP_123 vM_CP_textIsMember hp rfl rfl rfl rfl (m_CP_tM hq0 hm hA hE hS ht (n := 3) (by omega) (by decide)) (by decide) (by decide) (by decide) (by decide) (Nat.le_of_ble_eq_true rfl) ?_
          rintro _ h9_3 ⟨rfl, e9_3⟩
          rw [e9_3]
          refine w_eq (st' := [.int (bI (tM E S t s 3))]) rfl ?_
          suffices J3 : ∀ b3 : Nat, (b3 < 2 ^ 61 ∧ ∀ j, b3.testBit j = (b2.testBit j || (tM E S t s 3 && decide (j = s + 3)))) → WP X M_CP_endOfMembers (wR 2 0 0) 0 EN 0 0 71 [some (.ref 0), some (.ref q), some (.int (nI f0)), some (.long (lN b3)), none, some (.int (nI s)), some (.int (nI s)), some (.int (nI 3))] [] h by
            refine w_if_eq (tgt := 71) d_CP_endOfMembers_58 rfl (fun c58_3 => ?_) (fun c58_3 => ?_)
            · have c58_3 := bI_f c58_3
              exact J3 b2 ⟨y2.1, fun j => by rw [c58_3]; simp⟩
            · refine w_lload_n d_CP_endOfMembers_61 rfl ?_
              refine w_lconst (v := lN 1) d_CP_endOfMembers_62 (by decide) ?_
              refine w_iload d_CP_endOfMembers_63 rfl ?_
              refine w_iload d_CP_endOfMembers_65 rfl ?_
              have tl := tM_len (bI_t c58_3)
              refine w_iadd d_CP_endOfMembers_67 ?_
              refine w_topi (y := nI (s + 3)) (nI_add _ _) ?_
              refine w_lshl d_CP_endOfMembers_68 ?_
              refine w_topl (y := lN (2 ^ (s + 3))) (bit_shl (by omega)) ?_
              refine w_lor d_CP_endOfMembers_69 ?_
              refine w_topl (y := lN (b2 ||| 2 ^ (s + 3))) (bit_or y2.1 (by omega)) ?_
              refine w_lstore_n d_CP_endOfMembers_70 (by decide) ?_
              refine w_pl (pl' := [some (.ref 0), some (.ref q), some (.int (nI f0)), some (.long (lN (b2 ||| 2 ^ (s + 3)))), none, some (.int (nI s)), some (.int (nI s)), some (.int (nI 3))]) rfl ?_
              exact J3 (b2 ||| 2 ^ (s + 3)) ⟨bit_or_lt y2.1 (by omega), fun j => by rw [bit_or_t, bI_t c58_3, Bool.true_and]⟩
          intro b3 y3
          refine w_iinc (v := nI 4) d_CP_endOfMembers_71 rfl (by decide) (by decide) ?_
          refine w_pl (pl' := [some (.ref 0), some (.ref q), some (.int (nI f0)), some (.long (lN b3)), none, some (.int (nI s)), some (.int (nI s)), some (.int (nI 4))]) rfl ?_
          refine w_goto (tgt := 43) d_CP_endOfMembers_74 rfl ?_
          refine w_iload d_CP_endOfMembers_43 rfl ?_
          refine w_iconst (v := nI 3) d_CP_endOfMembers_45 (by decide) ?_
          refine w_icmp_gt (tgt := 77) d_CP_endOfMembers_46 rfl (fun _ => ?_) (fun z => absurd (by decide) z)
          refine w_iinc (v := nI (s + 1)) d_CP_endOfMembers_77 rfl (nI_1 _) (by decide) ?_
          refine w_pl (pl' := [some (.ref 0), some (.ref q), some (.int (nI f0)), some (.long (lN b3)), none, some (.int (nI s)), some (.int (nI (s + 1))), some (.int (nI 4))]) rfl ?_
          refine w_goto (tgt := 10) d_CP_endOfMembers_80 rfl ?_
          refine w_le (pl' := [some (.ref 0), some (.ref q), some (.int (nI f0)), some (.long (lN b3)), none, some (.int (nI s)), some (.int (nI (s + 1))), none]) ⟨rfl, rfl, rfl, rfl, rfl, rfl, trivial⟩ ?_
          refine ih (s + 1) b3 s (by omega) (by omega) y3.1 ?_
          rw [← k3]
          congr 1
          funext j
          rw [y3.2, y2.2, y1.2]
        · have c30 := bit_f c30
          rw [if_neg (by rw [c30]; decide)] at k3
          refine w_goto (tgt := 77) d_CP_endOfMembers_33 rfl ?_
          refine w_iinc (v := nI (s + 1)) d_CP_endOfMembers_77 rfl (nI_1 _) (by decide) ?_
          refine w_pl (pl' := [some (.ref 0), some (.ref q), some (.int (nI f0)), some (.long (lN b)), none, some (.int (nI g)), some (.int (nI (s + 1))), none]) rfl ?_
          refine w_goto (tgt := 10) d_CP_endOfMembers_80 rfl ?_
          exact ih (s + 1) b g (by omega) (by omega) k4 k3
  refine w_lconst (v := lN 1) d_CP_endOfMembers_0 (by decide) ?_
  refine w_iload_n d_CP_endOfMembers_1 rfl ?_
  refine w_lshl d_CP_endOfMembers_2 ?_
  refine w_topl (y := lN (2 ^ f0)) (bit_shl (by omega)) ?_
  refine w_lstore_n d_CP_endOfMembers_3 (by decide) ?_
  refine w_pl (pl' := [some (.ref 0), some (.ref q), some (.int (nI f0)), some (.long (lN (2 ^ f0))), none, none, none, none]) rfl ?_
  refine w_iload_n d_CP_endOfMembers_4 rfl ?_
  refine w_istore d_CP_endOfMembers_5 (by decide) ?_
  refine w_pl (pl' := [some (.ref 0), some (.ref q), some (.int (nI f0)), some (.long (lN (2 ^ f0))), none, some (.int (nI f0)), none, none]) rfl ?_
  refine w_iload_n d_CP_endOfMembers_7 rfl ?_
  refine w_istore d_CP_endOfMembers_8 (by decide) ?_
  refine w_pl (pl' := [some (.ref 0), some (.ref q), some (.int (nI f0)), some (.long (lN (2 ^ f0))), none, some (.int (nI f0)), some (.int (nI f0)), none]) rfl ?_
  refine L (t.length + 2) f0 (2 ^ f0) f0 (by omega) (by omega) (bit_lt (by omega)) ?_
  rw [hres]
  congr 1
  funext j
  rw [Nat.testBit_two_pow]
  exact decide_eq_decide.mpr eq_comm
set_option maxHeartbeats 4000000 in
set_option maxRecDepth 100000 in
theorem m_CP_spanG {h : wH} {t : List Nat} {G : gG} {sp : Nat} {Es Ss : List Nat} {pr : Nat → Nat} (hq : hCQ h t G sp Es Ss pr) (hg : gOk t G) {r k : Nat} {b : Bool} (hr : r < 3) (hk : k ≤ t.length) : PM X M_CP_span 3 0 0 [.ref 0, .int (nI r), .int (nI k), .int (bI b)] h (fun z h' => z = some (.int (nI (if b = true then sE (G r).1 (G r).2 t (t.length + 1 - k) k (fun j => decide (j = k)) k else sB0 (G r).1 (G r).2 t (t.length - k) k))) ∧ h' = h) := by
  have hq0 := hq; obtain ⟨hp, htx, ⟨f, har, hfr⟩, hrg, hss, ⟨A0, A1, hal⟩, ⟨o0, hwr⟩, hrd, p1, p2, p3, p4⟩ := hq
  obtain ⟨tf, tp, ta, t60, thf⟩ := id htx
  have rm := hrg r hr
  obtain ⟨gf, gk, gp, ga, gb, gl1, gl2, ghf, ghk⟩ := id rm
  have q1 := P2_in (p1 r hr)
  have q2 := P2_in p2
  have rok := hg.2 r hr
  have e31 : ∀ y ∈ (G r).1, y < 2 ^ 31 := fun y hy => by have := rok.1.2 y hy; omega
  refine PM.at (pl := [some (.ref 0), some (.int (nI r)), some (.int (nI k)), some (.int (bI b)), none]) rfl rfl (by simp [wle, wen]) ?_
  generalize hEN : wEm X 0 0 _ = EN
  refine w_aload_n d_CP_span_0 rfl rfl ?_
  refine w_iload_n d_CP_span_1 rfl ?_
  refine w_callV (as := [.int (nI r)]) (st := []) d_CP_span_2 yM_CP_registerAt l_CP_62 vM_CP_registerAt hp rfl rfl rfl rfl (m_CP_regG hq0 hr) (by decide) (by decide) (by decide) (by decide) (Nat.le_of_ble_eq_true rfl) ?_
  rintro _ h9_1 ⟨rfl, e9_1⟩
  rw [e9_1]
  refine w_eq (st' := [.ref (pr r)]) rfl ?_
  refine w_astore d_CP_span_5 (by decide) rfl ?_
  refine w_pl (pl' := [some (.ref 0), some (.int (nI r)), some (.int (nI k)), some (.int (bI b)), some (.ref (pr r))]) rfl ?_
  refine w_aload d_CP_span_7 rfl rfl ?_
  refine w_ifnull d_CP_span_9 ?_
  refine w_iload_n d_CP_span_12 rfl ?_
  refine w_if_lt (tgt := 27) d_CP_span_13 rfl (fun z => absurd z (nI_pos (by omega))) (fun _ => ?_)
  refine w_iload_n d_CP_span_16 rfl ?_
  refine w_aload_n d_CP_span_17 rfl rfl ?_
  refine w_get d_CP_span_18 f_CP_10 hp rfl ?_
  refine w_get d_CP_span_21 f_CP_54 tp rfl ?_
  refine w_icmp_le (tgt := 29) d_CP_span_24 rfl (fun _ => ?_) (fun z => absurd (nI_le hk (by omega)) z)
  refine w_iload_n d_CP_span_29 rfl ?_
  refine w_if_eq (tgt := 43) d_CP_span_30 rfl (fun c30 => ?_) (fun c30 => ?_)
  · have c30 := bI_f c30
    subst c30
    refine w_aload_n d_CP_span_43 rfl rfl ?_
    refine w_aload d_CP_span_44 rfl rfl ?_
    refine w_iload_n d_CP_span_46 rfl ?_
    refine w_callV (as := [.ref (pr r), .int (nI k)]) (st := []) d_CP_span_47 yM_CP_beginOfMember l_CP_141 vM_CP_beginOfMember hp rfl rfl rfl rfl (m_CP_begin hq0 rm rok.1.1 e31 rok.2.2.2.1 hg.1 hk) (by decide) (by decide) (by decide) (by decide) (Nat.le_of_ble_eq_true rfl) ?_
    rintro _ h9_2 ⟨rfl, e9_2⟩
    rw [e9_2]
    refine w_eq (st' := [.int (nI (sB0 (G r).1 (G r).2 t (t.length - k) k))]) rfl ?_
    rw [← hEN]
    refine w_iret d_CP_span_50 rfl ?_
    exact ⟨rfl, rfl⟩
  · have c30 := bI_t c30
    subst c30
    refine w_aload_n d_CP_span_33 rfl rfl ?_
    refine w_aload d_CP_span_34 rfl rfl ?_
    refine w_iload_n d_CP_span_36 rfl ?_
    refine w_callV (as := [.ref (pr r), .int (nI k)]) (st := []) d_CP_span_37 yM_CP_endOfMembers l_CP_137 vM_CP_endOfMembers hp rfl rfl rfl rfl (m_CP_end hq0 rm rok.1.1 e31 rok.2.2.2.1 hg.1 hk) (by decide) (by decide) (by decide) (by decide) (Nat.le_of_ble_eq_true rfl) ?_
    rintro _ h9_3 ⟨rfl, e9_3⟩
    rw [e9_3]
    refine w_eq (st' := [.int (nI (sE (G r).1 (G r).2 t (t.length + 1 - k) k (fun j => decide (j = k)) k))]) rfl ?_
    refine w_goto (tgt := 50) d_CP_span_40 rfl ?_
    rw [← hEN]
    refine w_iret d_CP_span_50 rfl ?_
    exact ⟨rfl, rfl⟩
set_option maxHeartbeats 4000000 in
set_option maxRecDepth 100000 in
theorem m_CP_spanB {h : wH} {t : List Nat} {G : gG} {sp : Nat} {Es Ss : List Nat} {pr : Nat → Nat} (hq : hCQ h t G sp Es Ss pr) {x y z9 : Int32} (hx : ¬ (0 ≤ x ∧ x < nI 3)) : PM X M_CP_span 3 0 0 [.ref 0, .int (x), .int (y), .int (z9)] h (fun z h' => z = some (.int (-1)) ∧ h' = h) := by
  have hq0 := hq; obtain ⟨hp, htx, ⟨f, har, hfr⟩, hrg, hss, ⟨A0, A1, hal⟩, ⟨o0, hwr⟩, hrd, p1, p2, p3, p4⟩ := hq
  refine PM.at (pl := [some (.ref 0), some (.int (x)), some (.int (y)), some (.int (z9)), none]) rfl rfl (by simp [wle, wen]) ?_
  generalize hEN : wEm X 0 0 _ = EN
  refine w_aload_n d_CP_span_0 rfl rfl ?_
  refine w_iload_n d_CP_span_1 rfl ?_
  refine w_callV (as := [.int (x)]) (st := []) d_CP_span_2 yM_CP_registerAt l_CP_62 vM_CP_registerAt hp rfl rfl rfl rfl (m_CP_regB hq0 (x := x) hx) (by decide) (by decide) (by decide) (by decide) (Nat.le_of_ble_eq_true rfl) ?_
  rintro _ h9_1 ⟨rfl, e9_1⟩
  rw [e9_1]
  refine w_eq (st' := [.null]) rfl ?_
  refine w_astore d_CP_span_5 (by decide) rfl ?_
  refine w_pl (pl' := [some (.ref 0), some (.int (x)), some (.int (y)), some (.int (z9)), some (.null)]) rfl ?_
  refine w_aload d_CP_span_7 rfl rfl ?_
  refine w_ifnullN (tgt := 27) d_CP_span_9 rfl ?_
  refine w_iconst (v := -1) d_CP_span_27 (by decide) ?_
  rw [← hEN]
  refine w_iret d_CP_span_28 rfl ?_
  exact ⟨rfl, rfl⟩
set_option maxHeartbeats 4000000 in
set_option maxRecDepth 100000 in
theorem m_CP_spanC {h : wH} {t : List Nat} {G : gG} {sp : Nat} {Es Ss : List Nat} {pr : Nat → Nat} (hq : hCQ h t G sp Es Ss pr) {r : Nat} {y z9 : Int32} (hr : r < 3) (hy : ¬ (0 ≤ y ∧ y ≤ nI t.length)) : PM X M_CP_span 3 0 0 [.ref 0, .int (nI r), .int (y), .int (z9)] h (fun z h' => z = some (.int (-1)) ∧ h' = h) := by
  have hq0 := hq; obtain ⟨hp, htx, ⟨f, har, hfr⟩, hrg, hss, ⟨A0, A1, hal⟩, ⟨o0, hwr⟩, hrd, p1, p2, p3, p4⟩ := hq
  obtain ⟨tf, tp, ta, t60, thf⟩ := id htx
  refine PM.at (pl := [some (.ref 0), some (.int (nI r)), some (.int (y)), some (.int (z9)), none]) rfl rfl (by simp [wle, wen]) ?_
  generalize hEN : wEm X 0 0 _ = EN
  refine w_aload_n d_CP_span_0 rfl rfl ?_
  refine w_iload_n d_CP_span_1 rfl ?_
  refine w_callV (as := [.int (nI r)]) (st := []) d_CP_span_2 yM_CP_registerAt l_CP_62 vM_CP_registerAt hp rfl rfl rfl rfl (m_CP_regG hq0 hr) (by decide) (by decide) (by decide) (by decide) (Nat.le_of_ble_eq_true rfl) ?_
  rintro _ h9_1 ⟨rfl, e9_1⟩
  rw [e9_1]
  refine w_eq (st' := [.ref (pr r)]) rfl ?_
  refine w_astore d_CP_span_5 (by decide) rfl ?_
  refine w_pl (pl' := [some (.ref 0), some (.int (nI r)), some (.int (y)), some (.int (z9)), some (.ref (pr r))]) rfl ?_
  refine w_aload d_CP_span_7 rfl rfl ?_
  refine w_ifnull d_CP_span_9 ?_
  refine w_iload_n d_CP_span_12 rfl ?_
  refine w_if_lt (tgt := 27) d_CP_span_13 rfl (fun c13 => ?_) (fun c13 => ?_)
  · refine w_iconst (v := -1) d_CP_span_27 (by decide) ?_
    rw [← hEN]
    refine w_iret d_CP_span_28 rfl ?_
    exact ⟨rfl, rfl⟩
  · refine w_iload_n d_CP_span_16 rfl ?_
    refine w_aload_n d_CP_span_17 rfl rfl ?_
    refine w_get d_CP_span_18 f_CP_10 hp rfl ?_
    refine w_get d_CP_span_21 f_CP_54 tp rfl ?_
    refine w_icmp_le (tgt := 29) d_CP_span_24 rfl (fun c24 => ?_) (fun c24 => ?_)
    · exact absurd ⟨Int32.not_lt.mp c13, c24⟩ hy
    · refine w_iconst (v := -1) d_CP_span_27 (by decide) ?_
      rw [← hEN]
      refine w_iret d_CP_span_28 rfl ?_
      exact ⟨rfl, rfl⟩
end CP3
