/-! PatternReader, first part: written by wip/gen/pr1.py -/
theorem bI_nar (z : Bool) : narrow .boolean (.int (bI z)) = .int (bI z) := by cases z <;> decide
theorem bI_fit (z : Bool) : fits .boolean (.int (bI z)) = true := by cases z <;> decide
/-- what a bracket, an item keep to -/
def iOk (I : List Nat × List Nat) : Prop := eOk I.1 ∧ eAsc I.2 ∧ (∀ y ∈ I.2, sOk y) ∧ I.2.length ≤ 8
theorem rJoin_S (B : Nat → Br) (k nx : Nat) (I : List Nat × List Nat) (z : Bool) : rJoin B (k + 1) nx I z = if (sCmb (B k).2.2.2.2 (B k).1.2 I.2).length ≤ 8 then some (bUp B k ((eCmb (B k).2.2.2.2 (B k).1.1 I.1, sCmb (B k).2.2.2.2 (B k).1.2 I.2), (B k).2.1, (B k).2.2.1 + 1, z, 0), k + 1, nx, ([], [])) else none := rfl
section PR1
variable {X : wX}
set_option maxHeartbeats 4000000 in
set_option maxRecDepth 100000 in
theorem m_OB_begin {h : wH} {q b : Nat} {β : Br} {z : Bool} (hq : hOB h q b β) (hd : b + 3 ≤ q ∨ q + 1 ≤ b) : PM X M_OB_begin 1 0 0 [.ref q, .int (bI z)] h (fun r h' => r = none ∧ hOB h' q b (([], []), z, 0, false, 0) ∧ ∀ j, j ≠ q → (j < b ∨ b + 3 ≤ j) → h'[j]? = h[j]?) := by
  obtain ⟨kp, hm⟩ := hq
  obtain ⟨gf, gk, gp, ga, gb, gl1, gl2, ghf, ghk⟩ := id hm
  refine PM.at (pl := [some (.ref q), some (.int (bI z))]) rfl rfl (by simp [wle, wen]) ?_
  generalize hEN : wEm X 0 0 _ = EN
  refine w_aload_n d_OB_begin_0 rfl rfl ?_
  refine w_get d_OB_begin_1 f_OB_12 kp rfl ?_
  refine w_callV (as := []) (st := []) d_OB_begin_4 yM_MS_clear l_OB_18 vM_MS_clear gp rfl rfl rfl rfl (m_MS_clear hm) (by decide) (by decide) (by decide) (by decide) (Nat.le_of_ble_eq_true rfl) ?_
  rintro _ h1_ ⟨rfl, hm1, ho1⟩
  refine w_eq (st' := []) rfl ?_
  have kq := (ho1 q (by omega)).trans kp
  refine w_aload_n d_OB_begin_7 rfl rfl ?_
  refine w_iload_n d_OB_begin_8 rfl ?_
  refine w_put d_OB_begin_9 f_OB_21 rfl kq rfl (bI_nar z) (bI_fit z) ?_
  refine w_nm (fun h1 e1 => ?_)
  have kq_1 := wS_eq e1 kq
  refine w_aload_n d_OB_begin_12 rfl rfl ?_
  refine w_iconst (v := nI 0) d_OB_begin_13 (by decide) ?_
  refine w_put d_OB_begin_14 f_OB_25 rfl kq_1 rfl rfl rfl ?_
  refine w_nm (fun h2 e2 => ?_)
  have kq_2 := wS_eq e2 kq_1
  refine w_aload_n d_OB_begin_17 rfl rfl ?_
  refine w_iconst (v := nI 0) d_OB_begin_18 (by decide) ?_
  refine w_put d_OB_begin_19 f_OB_29 rfl kq_2 rfl rfl rfl ?_
  refine w_nm (fun h3 e3 => ?_)
  have kq_3 := wS_eq e3 kq_2
  refine w_aload_n d_OB_begin_22 rfl rfl ?_
  refine w_iconst (v := nI 0) d_OB_begin_23 (by decide) ?_
  refine w_put d_OB_begin_24 f_OB_32 rfl kq_3 rfl rfl rfl ?_
  refine w_nm (fun h4 e4 => ?_)
  have kq_4 := wS_eq e4 kq_3
  rw [← hEN]
  refine w_vret d_OB_begin_27 rfl ?_
  refine ⟨rfl, ⟨kq_4, hm1.keep (fun j h1 h2 => by rw [wS_off e4 (by omega), wS_off e3 (by omega), wS_off e2 (by omega), wS_off e1 (by omega)])⟩, fun j hj hj2 => by rw [wS_off e4 (by omega), wS_off e3 (by omega), wS_off e2 (by omega), wS_off e1 (by omega), ho1 j hj2]⟩
set_option maxHeartbeats 4000000 in
set_option maxRecDepth 100000 in
theorem m_PR_inner {h : wH} {tk : List (Nat × Int32)} {B : Nat → Br} {nx o s v k : Nat} {b : Nat → Nat} (hq : hPR h tk B (k + 1) nx o s v b) (hk : k < 5) : PM X M_PR_innermost 0 0 0 [.ref 13] h (fun r h' => r = some (.ref (28 + 4 * k)) ∧ h' = h) := by
  have hq0 := hq; obtain ⟨hp, ⟨t, l, pos, htr⟩, ⟨f, har, hfr⟩, hbr, ⟨E1, S1, hop⟩, ⟨E2, S2, hsp⟩, po, ps, pb, pos1, pbo, pbb⟩ := hq
  refine PM.at (pl := [some (.ref 13)]) rfl rfl (by simp [wle, wen]) ?_
  generalize hEN : wEm X 0 0 _ = EN
  refine w_aload_n d_PR_innermost_0 rfl rfl ?_
  refine w_get d_PR_innermost_1 f_PR_20 hp rfl ?_
  refine w_aload_n d_PR_innermost_4 rfl rfl ?_
  refine w_get d_PR_innermost_5 f_PR_38 hp rfl ?_
  refine w_if_le (tgt := 20) d_PR_innermost_8 rfl (fun z => absurd z (nI_nle (by omega) (by omega))) (fun _ => ?_)
  refine w_aload_n d_PR_innermost_11 rfl rfl ?_
  refine w_get d_PR_innermost_12 f_PR_38 hp rfl ?_
  refine w_iconst (v := nI 1) d_PR_innermost_15 (by decide) ?_
  refine w_isub d_PR_innermost_16 ?_
  refine w_topi (y := nI k) (nI_pred k) ?_
  refine w_goto (tgt := 21) d_PR_innermost_17 rfl ?_
  refine w_aald d_PR_innermost_21 har rfl (vp_in_nI hk (by decide)) ?_
  rw [nI_clamp (by omega), hfr k hk]
  refine w_eq (st' := [.ref (28 + 4 * k)]) rfl ?_
  rw [← hEN]
  refine w_aret d_PR_innermost_22 rfl (Or.inl ⟨_, rfl⟩) rfl ?_
  exact ⟨rfl, rfl⟩
set_option maxHeartbeats 4000000 in
set_option maxRecDepth 100000 in
theorem m_PR_join0 {h : wH} {tk : List (Nat × Int32)} {B : Nat → Br} {nx o s v : Nat} {b : Nat → Nat} (hq : hPR h tk B 0 nx o s v b) {q : Nat} {I : List Nat × List Nat} {z : Bool} (hm : hMS h q I.1 I.2) (hqp : P1 q) : PM X M_PR_join 3 0 0 [.ref 13, .ref q, .int (bI z)] h (rQ (rJoin B 0 nx I z) h tk) := by
  have hq0 := hq; obtain ⟨hp, ⟨t, l, pos, htr⟩, ⟨f, har, hfr⟩, hbr, ⟨E1, S1, hop⟩, ⟨E2, S2, hsp⟩, po, ps, pb, pos1, pbo, pbb⟩ := hq
  have iq := P1_in hqp
  refine PM.at (pl := [some (.ref 13), some (.ref q), some (.int (bI z)), none, none]) rfl rfl (by simp [wle, wen]) ?_
  generalize hEN : wEm X 0 0 _ = EN
  refine w_aload_n d_PR_join_0 rfl rfl ?_
  refine w_get d_PR_join_1 f_PR_38 hp rfl ?_
  refine w_if_ne (tgt := 14) d_PR_join_4 rfl (fun z => absurd (by decide) z) (fun _ => ?_)
  refine w_aload_n d_PR_join_7 rfl rfl ?_
  refine w_aload_n d_PR_join_8 rfl rfl ?_
  refine w_put d_PR_join_9 f_PR_34 rfl hp rfl rfl rfl ?_
  refine w_nm (fun h1 e1 => ?_)
  have hp_1 := wS_eq e1 hp
  refine w_iconst (v := nI 1) d_PR_join_12 (by decide) ?_
  rw [← hEN]
  refine w_zret d_PR_join_13 rfl (by first | exact Or.inl rfl | exact Or.inr rfl) ?_
  have hpr := hq0.ob hp_1 (fun j hj => by rw [wS_off e1 (by omega)])
  refine ⟨fun j hj => by rw [wS_off e1 (by omega)], rfl, ⟨_, _, _, _, _, _, _, _, hpr⟩, fun B' d' nx' V hV => ?_⟩
  cases hV
  exact ⟨_, _, _, _, hpr, fun _ => ⟨hm.keep (fun j h1 h2 => by rw [wS_off e1 (by omega)]), hqp⟩⟩
set_option maxHeartbeats 4000000 in
set_option maxRecDepth 100000 in
theorem m_PR_joinS {h : wH} {tk : List (Nat × Int32)} {B : Nat → Br} {nx o s v k : Nat} {b : Nat → Nat} (hq : hPR h tk B (k + 1) nx o s v b) {q : Nat} {I : List Nat × List Nat} {z : Bool} (hk : k < 5) (hm : hMS h q I.1 I.2) (hqp : P1 q) (hqs : q ≠ s) (hI : iOk I) (hB : iOk (B k).1) (hh : (B k).2.2.2.2 ≤ 3) (hlen : (B k).1.1.length + I.1.length ≤ 400) : PM X M_PR_join 3 0 0 [.ref 13, .ref q, .int (bI z)] h (rQ (rJoin B (k + 1) nx I z) h tk) := by
  have hq0 := hq; obtain ⟨hp, ⟨t, l, pos, htr⟩, ⟨f, har, hfr⟩, hbr, ⟨E1, S1, hop⟩, ⟨E2, S2, hsp⟩, po, ps, pb, pos1, pbo, pbb⟩ := hq
  obtain ⟨kp, kms⟩ := hbr k hk
  have is := P1_in ps
  have iso := P1_ob ps hk
  obtain ⟨gf, gk, gp, ga, gb, gl1, gl2, ghf, ghk⟩ := id hsp
  have i16 : (B k).1.2.length + I.2.length ≤ 16 := by have := hI.2.2.2; have := hB.2.2.2; omega
  refine PM.at (pl := [some (.ref 13), some (.ref q), some (.int (bI z)), none, none]) rfl rfl (by simp [wle, wen]) ?_
  generalize hEN : wEm X 0 0 _ = EN
  refine w_aload_n d_PR_join_0 rfl rfl ?_
  refine w_get d_PR_join_1 f_PR_38 hp rfl ?_
  refine w_if_ne (tgt := 14) d_PR_join_4 rfl (fun _ => ?_) (fun z => absurd z (nI_ne0 (by omega) (by omega)))
  refine w_aload_n d_PR_join_14 rfl rfl ?_
  refine w_callV (as := []) (st := []) d_PR_join_15 yM_PR_innermost l_PR_86 vM_PR_innermost hp rfl rfl rfl rfl (m_PR_inner hq0 hk) (by decide) (by decide) (by decide) (by decide) (Nat.le_of_ble_eq_true rfl) ?_
  rintro _ h9_1 ⟨rfl, e9_1⟩
  rw [e9_1]
  refine w_eq (st' := [.ref (28 + 4 * k)]) rfl ?_
  refine w_astore_n d_PR_join_18 (by decide) rfl ?_
  refine w_pl (pl' := [some (.ref 13), some (.ref q), some (.int (bI z)), some (.ref (28 + 4 * k)), none]) rfl ?_
  refine w_aload_n d_PR_join_19 rfl rfl ?_
  refine w_get d_PR_join_20 f_PR_31 hp rfl ?_
  refine w_aload_n d_PR_join_23 rfl rfl ?_
  refine w_get d_PR_join_24 f_PR_94 kp rfl ?_
  refine w_aload_n d_PR_join_27 rfl rfl ?_
  refine w_aload_n d_PR_join_28 rfl rfl ?_
  refine w_get d_PR_join_29 f_PR_137 kp rfl ?_
  refine w_callV (as := [.ref (b k), .ref q, .int (nI (B k).2.2.2.2)]) (st := []) d_PR_join_32 yM_MS_becomeMerge l_PR_147 vM_MS_becomeMerge gp rfl rfl rfl rfl (m_MS_becomeMerge hsp kms hm (P1_dj ps (pb k hk) (Ne.symm (pbo k hk).2)) (P1_dj ps hqp (Ne.symm hqs)) hB.1 hI.1 hlen hB.2.1 hI.2.1 (fun y hy => sOk_lt (hB.2.2.1 y hy)) (fun y hy => sOk_lt (hI.2.2.1 y hy)) i16 hh) (by decide) (by decide) (by decide) (by decide) (Nat.le_of_ble_eq_true rfl) ?_
  rintro _ h1_ ⟨rfl, hm1, ho1⟩
  refine w_eq (st' := []) rfl ?_
  have hq1 := hq0.ss hm1 ho1
  have hp1 := hq1.1
  have kp1 := (hq1.2.2.2.1 k hk).1
  obtain ⟨nf, nk, np, na, nb, nl1, nl2, nhf, nhk⟩ := id hm1
  refine w_aload_n d_PR_join_35 rfl rfl ?_
  refine w_get d_PR_join_36 f_PR_94 kp1 rfl ?_
  refine w_astore d_PR_join_39 (by decide) rfl ?_
  refine w_pl (pl' := [some (.ref 13), some (.ref q), some (.int (bI z)), some (.ref (28 + 4 * k)), some (.ref (b k))]) rfl ?_
  refine w_aload_n d_PR_join_41 rfl rfl ?_
  refine w_aload_n d_PR_join_42 rfl rfl ?_
  refine w_get d_PR_join_43 f_PR_31 hp1 rfl ?_
  refine w_put d_PR_join_46 f_PR_94 rfl kp1 rfl rfl rfl ?_
  refine w_nm (fun h2 e2 => ?_)
  have hp1_2 := wS_ne e2 (by omega) hp1
  have kp1_2 := wS_eq e2 kp1
  have np_2 := wS_ne e2 (by omega) np
  have na_2 := wS_ne e2 (by omega) na
  have nb_2 := wS_ne e2 (by omega) nb
  refine w_aload_n d_PR_join_49 rfl rfl ?_
  refine w_aload d_PR_join_50 rfl rfl ?_
  refine w_put d_PR_join_52 f_PR_31 rfl hp1_2 rfl rfl rfl ?_
  refine w_nm (fun h3 e3 => ?_)
  have hp1_3 := wS_eq e3 hp1_2
  have kp1_3 := wS_ne e3 (by omega) kp1_2
  have np_3 := wS_ne e3 (by omega) np_2
  have na_3 := wS_ne e3 (by omega) na_2
  have nb_3 := wS_ne e3 (by omega) nb_2
  refine w_aload_n d_PR_join_55 rfl rfl ?_
  refine w_iconst (v := nI 0) d_PR_join_56 (by decide) ?_
  refine w_put d_PR_join_57 f_PR_137 rfl kp1_3 rfl rfl rfl ?_
  refine w_nm (fun h4 e4 => ?_)
  have hp1_4 := wS_ne e4 (by omega) hp1_3
  have kp1_4 := wS_eq e4 kp1_3
  have np_4 := wS_ne e4 (by omega) np_3
  have na_4 := wS_ne e4 (by omega) na_3
  have nb_4 := wS_ne e4 (by omega) nb_3
  refine w_aload_n d_PR_join_60 rfl rfl ?_
  refine w_iload_n d_PR_join_61 rfl ?_
  refine w_put d_PR_join_62 f_PR_134 rfl kp1_4 rfl (bI_nar z) (bI_fit z) ?_
  refine w_nm (fun h5 e5 => ?_)
  have hp1_5 := wS_ne e5 (by omega) hp1_4
  have kp1_5 := wS_eq e5 kp1_4
  have np_5 := wS_ne e5 (by omega) np_4
  have na_5 := wS_ne e5 (by omega) na_4
  have nb_5 := wS_ne e5 (by omega) nb_4
  refine w_aload_n d_PR_join_65 rfl rfl ?_
  refine w_dup d_PR_join_66 rfl ?_
  refine w_get d_PR_join_67 f_PR_131 kp1_5 rfl ?_
  refine w_iconst (v := nI 1) d_PR_join_70 (by decide) ?_
  refine w_iadd d_PR_join_71 ?_
  refine w_topi (y := nI ((B k).2.2.1 + 1)) (nI_1 _) ?_
  refine w_put d_PR_join_72 f_PR_131 rfl kp1_5 rfl rfl rfl ?_
  refine w_nm (fun h6 e6 => ?_)
  have hp1_6 := wS_ne e6 (by omega) hp1_5
  have kp1_6 := wS_eq e6 kp1_5
  have np_6 := wS_ne e6 (by omega) np_5
  have na_6 := wS_ne e6 (by omega) na_5
  have nb_6 := wS_ne e6 (by omega) nb_5
  refine w_aload_n d_PR_join_75 rfl rfl ?_
  refine w_get d_PR_join_76 f_PR_94 kp1_6 rfl ?_
  refine w_get d_PR_join_79 f_PR_95 np_6 rfl ?_
  refine w_bipush (v := nI 8) d_PR_join_82 (by decide) ?_
  refine w_icmp_gt (tgt := 91) d_PR_join_84 rfl (fun c84 => ?_) (fun c84 => ?_)
  · have c84 : ¬ (sCmb (B k).2.2.2.2 (B k).1.2 I.2).length ≤ 8 := Nat.not_le.mpr ((nI_ltI (a := 8) (b := (sCmb (B k).2.2.2.2 (B k).1.2 I.2).length) (by decide) (by omega)).mp c84)
    refine w_iconst (v := nI 0) d_PR_join_91 (by decide) ?_
    rw [← hEN]
    refine w_zret d_PR_join_92 rfl (by first | exact Or.inl rfl | exact Or.inr rfl) ?_
    have hpr := hq1.swap hk hm1 hp1_6 kp1_6 (fun j hj hj2 => by rw [wS_off e6 (by omega), wS_off e5 (by omega), wS_off e4 (by omega), wS_off e3 (by omega), wS_off e2 (by omega)])
    refine ⟨fun j hj => by rw [wS_off e6 (by omega), wS_off e5 (by omega), wS_off e4 (by omega), wS_off e3 (by omega), wS_off e2 (by omega), ho1 j (by omega)], ?_, ⟨_, _, _, _, _, _, _, _, hpr⟩, fun B' d' nx' V hV => ?_⟩
    · first | (rw [rJoin_S, if_pos c84]; rfl) | (rw [rJoin_S, if_neg c84]; rfl)
    · first | (rw [rJoin_S, if_pos c84] at hV; cases hV; exact ⟨_, _, _, _, hpr, fun z9 => by omega⟩) | (rw [rJoin_S, if_neg c84] at hV; cases hV)
  · have c84 : (sCmb (B k).2.2.2.2 (B k).1.2 I.2).length ≤ 8 := Nat.not_lt.mp (fun z9 => c84 ((nI_ltI (a := 8) (b := (sCmb (B k).2.2.2.2 (B k).1.2 I.2).length) (by decide) (by omega)).mpr z9))
    refine w_iconst (v := nI 1) d_PR_join_87 (by decide) ?_
    refine w_goto (tgt := 92) d_PR_join_88 rfl ?_
    rw [← hEN]
    refine w_zret d_PR_join_92 rfl (by first | exact Or.inl rfl | exact Or.inr rfl) ?_
    have hpr := hq1.swap hk hm1 hp1_6 kp1_6 (fun j hj hj2 => by rw [wS_off e6 (by omega), wS_off e5 (by omega), wS_off e4 (by omega), wS_off e3 (by omega), wS_off e2 (by omega)])
    refine ⟨fun j hj => by rw [wS_off e6 (by omega), wS_off e5 (by omega), wS_off e4 (by omega), wS_off e3 (by omega), wS_off e2 (by omega), ho1 j (by omega)], ?_, ⟨_, _, _, _, _, _, _, _, hpr⟩, fun B' d' nx' V hV => ?_⟩
    · first | (rw [rJoin_S, if_pos c84]; rfl) | (rw [rJoin_S, if_neg c84]; rfl)
    · first | (rw [rJoin_S, if_pos c84] at hV; cases hV; exact ⟨_, _, _, _, hpr, fun z9 => by omega⟩) | (rw [rJoin_S, if_neg c84] at hV; cases hV)
set_option maxHeartbeats 4000000 in
set_option maxRecDepth 100000 in
theorem m_PR_take {h : wH} {tk : List (Nat × Int32)} {B : Nat → Br} {nx o s v d : Nat} {b : Nat → Nat} (hq : hPR h tk B d nx o s v b) {x y wd : Nat} (hxy : x ≤ y) (hy : y < 1114112) : PM X M_PR_takeRange 2 0 0 [.ref 13, .int (nI x), .int (nI y), .int (nI wd)] h (fun r h' => r = none ∧ hPR h' tk B d (nx + wd) o s v b ∧ hMS h' o [x, y + 1] [] ∧ wOff h h' 13 35) := by
  have hq0 := hq; obtain ⟨hp, ⟨t, l, pos, htr⟩, ⟨f, har, hfr⟩, hbr, ⟨E1, S1, hop⟩, ⟨E2, S2, hsp⟩, po, ps, pb, pos1, pbo, pbb⟩ := hq
  have io := P1_in po
  obtain ⟨gf, gk, gp, ga, gb, gl1, gl2, ghf, ghk⟩ := id hop
  refine PM.at (pl := [some (.ref 13), some (.int (nI x)), some (.int (nI y)), some (.int (nI wd))]) rfl rfl (by simp [wle, wen]) ?_
  generalize hEN : wEm X 0 0 _ = EN
  refine w_aload_n d_PR_takeRange_0 rfl rfl ?_
  refine w_get d_PR_takeRange_1 f_PR_27 hp rfl ?_
  refine w_callV (as := []) (st := []) d_PR_takeRange_4 yM_MS_clear l_PR_140 vM_MS_clear gp rfl rfl rfl rfl (m_MS_clear hop) (by decide) (by decide) (by decide) (by decide) (Nat.le_of_ble_eq_true rfl) ?_
  rintro _ h1_ ⟨rfl, hm1, ho1⟩
  refine w_eq (st' := []) rfl ?_
  have hq1 := hq0.so hm1 ho1
  have hp1 := hq1.1
  have gp1 := hm1.choose_spec.choose_spec.1
  refine w_aload_n d_PR_takeRange_7 rfl rfl ?_
  refine w_get d_PR_takeRange_8 f_PR_27 hp1 rfl ?_
  refine w_iload_n d_PR_takeRange_11 rfl ?_
  refine w_iload_n d_PR_takeRange_12 rfl ?_
  refine w_callV (as := [.int (nI x), .int (nI y)]) (st := []) d_PR_takeRange_13 yM_MS_appendRange l_PR_143 vM_MS_appendRange gp1 rfl rfl rfl rfl (m_MS_appendRange hm1 List.Pairwise.nil (fun z9 hz9 => by cases hz9) hxy (by omega) (by decide)) (by decide) (by decide) (by decide) (by decide) (Nat.le_of_ble_eq_true rfl) ?_
  rintro _ h2_ ⟨rfl, hm2, ho2⟩
  refine w_eq (st' := []) rfl ?_
  have hq2 := hq1.so hm2 ho2
  have hp2 := hq2.1
  have he2 : eTog (eTog [] x) (y + 1) = [x, y + 1] := by
    rw [show eTog [] x = [x] from rfl, eTog_new (fun z9 hz9 => by rw [List.mem_singleton] at hz9; omega)]; rfl
  rw [he2] at hm2
  refine w_aload_n d_PR_takeRange_16 rfl rfl ?_
  refine w_dup d_PR_takeRange_17 rfl ?_
  refine w_get d_PR_takeRange_18 f_PR_42 hp2 rfl ?_
  refine w_iload_n d_PR_takeRange_21 rfl ?_
  refine w_iadd d_PR_takeRange_22 ?_
  refine w_topi (y := nI (nx + wd)) (nI_add _ _) ?_
  refine w_put d_PR_takeRange_23 f_PR_42 rfl hp2 rfl rfl rfl ?_
  refine w_nm (fun h1 e1 => ?_)
  have hp2_1 := wS_eq e1 hp2
  rw [← hEN]
  refine w_vret d_PR_takeRange_26 rfl ?_
  refine ⟨rfl, hq2.ob hp2_1 (fun j hj => by rw [wS_off e1 (by omega)]), hm2.keep (fun j h1 h2 => by rw [wS_off e1 (by omega)]), fun j hj => by rw [wS_off e1 (by omega), ho2 j (by omega), ho1 j (by omega)]⟩
set_option maxHeartbeats 4000000 in
set_option maxRecDepth 100000 in
theorem m_PR_open {h : wH} {tk : List (Nat × Int32)} {B : Nat → Br} {nx o s v d : Nat} {b : Nat → Nat} (hq : hPR h tk B d nx o s v b) {z : Bool} (hd : d ≤ 5) : PM X M_PR_openBracket 2 0 0 [.ref 13, .int (bI z)] h (rQ (rOpen B d nx z) h tk) := by
  have hq0 := hq; obtain ⟨hp, ⟨t, l, pos, htr⟩, ⟨f, har, hfr⟩, hbr, ⟨E1, S1, hop⟩, ⟨E2, S2, hsp⟩, po, ps, pb, pos1, pbo, pbb⟩ := hq
  refine PM.at (pl := [some (.ref 13), some (.int (bI z))]) rfl rfl (by simp [wle, wen]) ?_
  generalize hEN : wEm X 0 0 _ = EN
  refine w_aload_n d_PR_openBracket_0 rfl rfl ?_
  refine w_get d_PR_openBracket_1 f_PR_38 hp rfl ?_
  refine w_iconst (v := nI 5) d_PR_openBracket_4 (by decide) ?_
  refine w_icmp_lt (tgt := 10) d_PR_openBracket_5 rfl (fun c5 => ?_) (fun c5 => ?_)
  · have c5 : d < 5 := (nI_ltI (a := d) (b := 5) (by omega) (by decide)).mp c5
    have hbd := P1_ob (pb d c5) c5
    have ibd := P1_in (pb d c5)
    have kp := (hbr d c5).1
    refine w_aload_n d_PR_openBracket_10 rfl rfl ?_
    refine w_get d_PR_openBracket_11 f_PR_20 hp rfl ?_
    refine w_aload_n d_PR_openBracket_14 rfl rfl ?_
    refine w_get d_PR_openBracket_15 f_PR_38 hp rfl ?_
    refine w_aald d_PR_openBracket_18 har rfl (vp_in_nI c5 (by decide)) ?_
    rw [nI_clamp (by omega), hfr d c5]
    refine w_eq (st' := [.ref (28 + 4 * d)]) rfl ?_
    refine w_iload_n d_PR_openBracket_19 rfl ?_
    refine w_callV (as := [.int (bI z)]) (st := []) d_PR_openBracket_20 yM_OB_begin l_PR_82 vM_OB_begin kp rfl rfl rfl rfl (m_OB_begin (hbr d c5) (by omega)) (by decide) (by decide) (by decide) (by decide) (Nat.le_of_ble_eq_true rfl) ?_
    rintro _ h1_ ⟨rfl, hb1, ho1⟩
    refine w_eq (st' := []) rfl ?_
    have hq1 := hq0.beg c5 hb1 ho1
    have hp1 := hq1.1
    refine w_aload_n d_PR_openBracket_23 rfl rfl ?_
    refine w_dup d_PR_openBracket_24 rfl ?_
    refine w_get d_PR_openBracket_25 f_PR_38 hp1 rfl ?_
    refine w_iconst (v := nI 1) d_PR_openBracket_28 (by decide) ?_
    refine w_iadd d_PR_openBracket_29 ?_
    refine w_topi (y := nI (d + 1)) (nI_add _ _) ?_
    refine w_put d_PR_openBracket_30 f_PR_38 rfl hp1 rfl rfl rfl ?_
    refine w_nm (fun h1 e1 => ?_)
    have hp1_1 := wS_eq e1 hp1
    refine w_aload_n d_PR_openBracket_33 rfl rfl ?_
    refine w_dup d_PR_openBracket_34 rfl ?_
    refine w_get d_PR_openBracket_35 f_PR_42 hp1_1 rfl ?_
    refine w_iconst (v := nI 1) d_PR_openBracket_38 (by decide) ?_
    refine w_iadd d_PR_openBracket_39 ?_
    refine w_topi (y := nI (nx + 1)) (nI_add _ _) ?_
    refine w_put d_PR_openBracket_40 f_PR_42 rfl hp1_1 rfl rfl rfl ?_
    refine w_nm (fun h2 e2 => ?_)
    have hp1_2 := wS_eq e2 hp1_1
    refine w_iconst (v := nI 1) d_PR_openBracket_43 (by decide) ?_
    rw [← hEN]
    refine w_zret d_PR_openBracket_44 rfl (by first | exact Or.inl rfl | exact Or.inr rfl) ?_
    have hpr := hq1.ob hp1_2 (fun j hj => by rw [wS_off e2 (by omega), wS_off e1 (by omega)])
    refine ⟨fun j hj => by rw [wS_off e2 (by omega), wS_off e1 (by omega), ho1 j (by omega) (by omega)], by unfold rOpen; rw [if_pos c5]; rfl, ⟨_, _, _, _, _, _, _, _, hpr⟩, fun B' d' nx' V hV => ?_⟩
    unfold rOpen at hV; rw [if_pos c5] at hV; cases hV
    exact ⟨_, _, _, _, hpr, fun z9 => by omega⟩
  · have c5 : ¬ d < 5 := fun z9 => c5 ((nI_ltI (a := d) (b := 5) (by omega) (by decide)).mpr z9)
    refine w_iconst (v := nI 0) d_PR_openBracket_8 (by decide) ?_
    rw [← hEN]
    refine w_zret d_PR_openBracket_9 rfl (by first | exact Or.inl rfl | exact Or.inr rfl) ?_
    refine ⟨wOff.rf, by unfold rOpen; rw [if_neg c5]; rfl, ⟨_, _, _, _, _, _, _, _, hq0⟩, fun B' d' nx' V hV => ?_⟩
    unfold rOpen at hV; rw [if_neg c5] at hV; cases hV
end PR1
