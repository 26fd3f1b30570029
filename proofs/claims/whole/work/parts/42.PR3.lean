/-! PatternReader, third part: written by wip/gen/pr3.py -/
theorem iOk_key {k : Nat} (h : sOk k) : iOk ([], [k]) := ⟨⟨List.Pairwise.nil, fun x hx => by cases hx⟩, List.pairwise_singleton _ _, fun y hy => by rw [List.mem_singleton] at hy; exact hy ▸ h, by show 1 ≤ 8; decide⟩
section PR3
variable {X : wX}
set_option maxHeartbeats 4000000 in
set_option maxRecDepth 100000 in
theorem m_PR_str {h : wH} {tk : List (Nat × Int32)} {B : Nat → Br} {nx o s v d : Nat} {b : Nat → Nat} (hq : hPR h tk B d nx o s v b) (hb : bOk B d) (hnx : nx < 2 ^ 20) (hkd : tkOk tk) : PM X M_PR_readString 4 0 0 [.ref 13] h (rQ (rStr tk B d nx) h tk) := by
  have hq0 := hq; obtain ⟨hp, ⟨t, l, pos, htr⟩, ⟨f, har, hfr⟩, hbr, ⟨E1, S1, hop⟩, ⟨E2, S2, hsp⟩, po, ps, pb, pos1, pbo, pbb⟩ := hq
  have trp := htr.choose_spec.choose_spec.1; have hl60 : tk.length ≤ 60 := htr.choose_spec.choose_spec.2.2.2.2.2.1
  have hb5 := hb.1
  have io := P1_in po
  obtain ⟨gf, gk, gp, ga, gb, gl1, gl2, ghf, ghk⟩ := id hop
  refine PM.at (pl := [some (.ref 13), none, none, none]) rfl rfl (by simp [wle, wen]) ?_
  generalize hEN : wEm X 0 0 _ = EN
  refine w_iconst (v := nI 0) d_PR_readString_0 (by decide) ?_
  refine w_istore_n d_PR_readString_1 (by decide) ?_
  refine w_pl (pl' := [some (.ref 13), some (.int (nI 0)), none, none]) rfl ?_
  refine w_iconst (v := nI 1) d_PR_readString_2 (by decide) ?_
  refine w_istore_n d_PR_readString_3 (by decide) ?_
  refine w_pl (pl' := [some (.ref 13), some (.int (nI 0)), some (.int (nI 1)), none]) rfl ?_
  refine w_iload_n d_PR_readString_4 rfl ?_
  refine w_iconst (v := nI 3) d_PR_readString_5 (by decide) ?_
  refine w_icmp_gt (tgt := 34) d_PR_readString_6 rfl (fun z => absurd z (by decide)) (fun _ => ?_)
  refine w_aload_n d_PR_readString_9 rfl rfl ?_
  refine w_get d_PR_readString_10 f_PR_12 hp rfl ?_
  refine w_aload_n d_PR_readString_13 rfl rfl ?_
  refine w_get d_PR_readString_14 f_PR_42 hp rfl ?_
  refine w_iload_n d_PR_readString_17 rfl ?_
  refine w_iadd d_PR_readString_18 ?_
  refine w_topi (y := nI (nx + 1)) (nI_add _ _) ?_
  refine w_callV (as := [.int (nI (nx + 1))]) (st := []) d_PR_readString_19 yM_TR_kindAt l_PR_52 vM_TR_kindAt trp rfl rfl rfl rfl (m_TR_kindAt htr (by omega)) (by decide) (by decide) (by decide) (by decide) (Nat.le_of_ble_eq_true rfl) ?_
  rintro _ h9_1 ⟨rfl, e9_1⟩
  rw [e9_1]
  refine w_eq (st' := [.int (nI (kd tk (nx + 1)))]) rfl ?_
  refine w_iconst (v := nI 1) d_PR_readString_22 (by decide) ?_
  refine w_icmp_ne (tgt := 34) d_PR_readString_23 rfl (fun c23_1 => ?_) (fun c23_1 => ?_)
  · have c23_1 : ¬ kd tk (nx + 1) = 1 := fun z => c23_1 (by rw [z])
    have hw9 : rWid tk nx = 0 := by unfold rWid; rw [if_neg c23_1]
    refine w_iload_n d_PR_readString_34 rfl ?_
    refine w_if_eq (tgt := 58) d_PR_readString_35 rfl (fun _ => ?_) (fun z => absurd (by decide) z)
    refine w_iconst (v := nI 0) d_PR_readString_58 (by decide) ?_
    rw [← hEN]
    refine w_zret d_PR_readString_59 rfl (by first | exact Or.inl rfl | exact Or.inr rfl) ?_
    have hrc : rStr tk B d nx = none := by unfold rStr; rw [if_pos (Or.inl hw9)]
    rw [hrc]
    exact ⟨wOff.rf, rfl, ⟨_, _, _, _, _, _, _, _, hq0⟩, fun B' d' nx' V hV => by cases hV⟩
  · have c23_1 : kd tk (nx + 1) = 1 := (nI_eq (by have := kd_le hkd (nx + 1); omega) (by decide)).mp c23_1
    refine w_iload_n d_PR_readString_26 rfl ?_
    refine w_istore_n d_PR_readString_27 (by decide) ?_
    refine w_pl (pl' := [some (.ref 13), some (.int (nI 1)), some (.int (nI 1)), none]) rfl ?_
    refine w_iinc (v := nI 2) d_PR_readString_28 rfl (by decide) (by decide) ?_
    refine w_pl (pl' := [some (.ref 13), some (.int (nI 1)), some (.int (nI 2)), none]) rfl ?_
    refine w_goto (tgt := 4) d_PR_readString_31 rfl ?_
    refine w_iload_n d_PR_readString_4 rfl ?_
    refine w_iconst (v := nI 3) d_PR_readString_5 (by decide) ?_
    refine w_icmp_gt (tgt := 34) d_PR_readString_6 rfl (fun z => absurd z (by decide)) (fun _ => ?_)
    refine w_aload_n d_PR_readString_9 rfl rfl ?_
    refine w_get d_PR_readString_10 f_PR_12 hp rfl ?_
    refine w_aload_n d_PR_readString_13 rfl rfl ?_
    refine w_get d_PR_readString_14 f_PR_42 hp rfl ?_
    refine w_iload_n d_PR_readString_17 rfl ?_
    refine w_iadd d_PR_readString_18 ?_
    refine w_topi (y := nI (nx + 2)) (nI_add _ _) ?_
    refine w_callV (as := [.int (nI (nx + 2))]) (st := []) d_PR_readString_19 yM_TR_kindAt l_PR_52 vM_TR_kindAt trp rfl rfl rfl rfl (m_TR_kindAt htr (by omega)) (by decide) (by decide) (by decide) (by decide) (Nat.le_of_ble_eq_true rfl) ?_
    rintro _ h9_2 ⟨rfl, e9_2⟩
    rw [e9_2]
    refine w_eq (st' := [.int (nI (kd tk (nx + 2)))]) rfl ?_
    refine w_iconst (v := nI 1) d_PR_readString_22 (by decide) ?_
    refine w_icmp_ne (tgt := 34) d_PR_readString_23 rfl (fun c23_2 => ?_) (fun c23_2 => ?_)
    · have c23_2 : ¬ kd tk (nx + 2) = 1 := fun z => c23_2 (by rw [z])
      have hw9 : rWid tk nx = 1 := by unfold rWid; rw [if_pos c23_1, if_neg c23_2]
      refine w_iload_n d_PR_readString_34 rfl ?_
      refine w_if_eq (tgt := 58) d_PR_readString_35 rfl (fun z => absurd z (by decide)) (fun _ => ?_)
      refine w_aload_n d_PR_readString_38 rfl rfl ?_
      refine w_get d_PR_readString_39 f_PR_12 hp rfl ?_
      refine w_aload_n d_PR_readString_42 rfl rfl ?_
      refine w_get d_PR_readString_43 f_PR_42 hp rfl ?_
      refine w_iload_n d_PR_readString_46 rfl ?_
      refine w_iadd d_PR_readString_47 ?_
      refine w_topi (y := nI (nx + 1)) (nI_add _ _) ?_
      refine w_iconst (v := nI 1) d_PR_readString_48 (by decide) ?_
      refine w_iadd d_PR_readString_49 ?_
      refine w_topi (y := nI (nx + 1 + 1)) (nI_add _ _) ?_
      refine w_callV (as := [.int (nI (nx + 1 + 1))]) (st := []) d_PR_readString_50 yM_TR_kindAt l_PR_52 vM_TR_kindAt trp rfl rfl rfl rfl (m_TR_kindAt htr (by omega)) (by decide) (by decide) (by decide) (by decide) (Nat.le_of_ble_eq_true rfl) ?_
      rintro _ h9_3 ⟨rfl, e9_3⟩
      rw [e9_3]
      refine w_eq (st' := [.int (nI (kd tk (nx + 1 + 1)))]) rfl ?_
      refine w_bipush (v := nI 8) d_PR_readString_53 (by decide) ?_
      refine w_icmp_eq (tgt := 60) d_PR_readString_55 rfl (fun c55 => ?_) (fun c55 => ?_)
      · have c55 : kd tk (nx + 1 + 1) = 8 := (nI_eq (by have := kd_le hkd (nx + 1 + 1); omega) (by decide)).mp c55
        obtain ⟨a, ha, hva⟩ := kd_ch hkd c23_1
        refine w_aload_n d_PR_readString_60 rfl rfl ?_
        refine w_get d_PR_readString_61 f_PR_12 hp rfl ?_
        refine w_aload_n d_PR_readString_64 rfl rfl ?_
        refine w_get d_PR_readString_65 f_PR_42 hp rfl ?_
        refine w_iconst (v := nI 1) d_PR_readString_68 (by decide) ?_
        refine w_iadd d_PR_readString_69 ?_
        refine w_topi (y := nI (nx + 1)) (nI_add _ _) ?_
        refine w_callV (as := [.int (nI (nx + 1))]) (st := []) d_PR_readString_70 yM_TR_valueAt l_PR_106 vM_TR_valueAt trp rfl rfl rfl rfl (m_TR_valueAt htr (by omega)) (by decide) (by decide) (by decide) (by decide) (Nat.le_of_ble_eq_true rfl) ?_
        rintro _ h9_4 ⟨rfl, e9_4⟩
        rw [e9_4]
        refine w_eq (st' := [.int (vl tk (nx + 1))]) rfl ?_
        refine w_topi (y := nI a) hva ?_
        refine w_istore_n d_PR_readString_73 (by decide) ?_
        refine w_pl (pl' := [some (.ref 13), some (.int (nI 1)), some (.int (nI a)), none]) rfl ?_
        refine w_iload_n d_PR_readString_74 rfl ?_
        refine w_iconst (v := nI 1) d_PR_readString_75 (by decide) ?_
        refine w_icmp_ne (tgt := 96) d_PR_readString_76 rfl (fun z => absurd (by decide) z) (fun _ => ?_)
        refine w_aload_n d_PR_readString_79 rfl rfl ?_
        refine w_iload_n d_PR_readString_80 rfl ?_
        refine w_iload_n d_PR_readString_81 rfl ?_
        refine w_iconst (v := nI 3) d_PR_readString_82 (by decide) ?_
        refine w_callV (as := [.int (nI a), .int (nI a), .int (nI 3)]) (st := []) d_PR_readString_83 yM_PR_takeRange l_PR_119 vM_PR_takeRange hp rfl rfl rfl rfl (m_PR_take hq0 (wd := 3) (Nat.le_refl _) ha) (by decide) (by decide) (by decide) (by decide) (Nat.le_of_ble_eq_true rfl) ?_
        rintro _ h1_ ⟨rfl, hq1, hm1, ho1⟩
        refine w_eq (st' := []) rfl ?_
        have hp1 := hq1.1
        refine w_aload_n d_PR_readString_86 rfl rfl ?_
        refine w_aload_n d_PR_readString_87 rfl rfl ?_
        refine w_get d_PR_readString_88 f_PR_27 hp1 rfl ?_
        refine w_iconst (v := nI 0) d_PR_readString_91 (by decide) ?_
        refine w_callV (as := [.ref o, .int (nI 0)]) (st := []) d_PR_readString_92 yM_PR_join l_PR_102 vM_PR_join hp1 rfl rfl rfl rfl (m_PR_joinA hq1 (I := (rRan a a)) (z := false) hb hm1 po pos1 (iOk_ran (Nat.le_refl _) ha) (by show 2 ≤ 200; decide)) (by decide) (by decide) (by decide) (by decide) (Nat.le_of_ble_eq_true rfl) ?_
        rintro _ h9 ⟨ho9, rfl, hr9⟩
        refine w_eq (st' := [.int (bI (rJoin B d (nx + 3) (rRan a a) false).isSome)]) rfl ?_
        rw [← hEN]
        refine w_zret d_PR_readString_95 rfl (bI_01 _) ?_
        have hrc : rStr tk B d nx = rJoin B d (nx + 3) (rRan a a) false := by unfold rStr; rw [if_neg (fun z => z.elim (fun y => by omega) (fun y => y (by rw [hw9]; exact c55))), if_pos hw9, hva, nV_nI ha]
        rw [hrc]
        exact ⟨ho1.tr ho9, rfl, hr9⟩
      · have c55 : ¬ kd tk (nx + 1 + 1) = 8 := fun z => c55 (by rw [z])
        refine w_iconst (v := nI 0) d_PR_readString_58 (by decide) ?_
        rw [← hEN]
        refine w_zret d_PR_readString_59 rfl (by first | exact Or.inl rfl | exact Or.inr rfl) ?_
        have hrc : rStr tk B d nx = none := by unfold rStr; rw [if_pos (Or.inr (by rw [hw9]; exact c55))]
        rw [hrc]
        exact ⟨wOff.rf, rfl, ⟨_, _, _, _, _, _, _, _, hq0⟩, fun B' d' nx' V hV => by cases hV⟩
    · have c23_2 : kd tk (nx + 2) = 1 := (nI_eq (by have := kd_le hkd (nx + 2); omega) (by decide)).mp c23_2
      refine w_iload_n d_PR_readString_26 rfl ?_
      refine w_istore_n d_PR_readString_27 (by decide) ?_
      refine w_pl (pl' := [some (.ref 13), some (.int (nI 2)), some (.int (nI 2)), none]) rfl ?_
      refine w_iinc (v := nI 3) d_PR_readString_28 rfl (by decide) (by decide) ?_
      refine w_pl (pl' := [some (.ref 13), some (.int (nI 2)), some (.int (nI 3)), none]) rfl ?_
      refine w_goto (tgt := 4) d_PR_readString_31 rfl ?_
      refine w_iload_n d_PR_readString_4 rfl ?_
      refine w_iconst (v := nI 3) d_PR_readString_5 (by decide) ?_
      refine w_icmp_gt (tgt := 34) d_PR_readString_6 rfl (fun z => absurd z (by decide)) (fun _ => ?_)
      refine w_aload_n d_PR_readString_9 rfl rfl ?_
      refine w_get d_PR_readString_10 f_PR_12 hp rfl ?_
      refine w_aload_n d_PR_readString_13 rfl rfl ?_
      refine w_get d_PR_readString_14 f_PR_42 hp rfl ?_
      refine w_iload_n d_PR_readString_17 rfl ?_
      refine w_iadd d_PR_readString_18 ?_
      refine w_topi (y := nI (nx + 3)) (nI_add _ _) ?_
      refine w_callV (as := [.int (nI (nx + 3))]) (st := []) d_PR_readString_19 yM_TR_kindAt l_PR_52 vM_TR_kindAt trp rfl rfl rfl rfl (m_TR_kindAt htr (by omega)) (by decide) (by decide) (by decide) (by decide) (Nat.le_of_ble_eq_true rfl) ?_
      rintro _ h9_5 ⟨rfl, e9_5⟩
      rw [e9_5]
      refine w_eq (st' := [.int (nI (kd tk (nx + 3)))]) rfl ?_
      refine w_iconst (v := nI 1) d_PR_readString_22 (by decide) ?_
      refine w_icmp_ne (tgt := 34) d_PR_readString_23 rfl (fun c23_3 => ?_) (fun c23_3 => ?_)
      · have c23_3 : ¬ kd tk (nx + 3) = 1 := fun z => c23_3 (by rw [z])
        have hw9 : rWid tk nx = 2 := by unfold rWid; rw [if_pos c23_1, if_pos c23_2, if_neg c23_3]
        refine w_iload_n d_PR_readString_34 rfl ?_
        refine w_if_eq (tgt := 58) d_PR_readString_35 rfl (fun z => absurd z (by decide)) (fun _ => ?_)
        refine w_aload_n d_PR_readString_38 rfl rfl ?_
        refine w_get d_PR_readString_39 f_PR_12 hp rfl ?_
        refine w_aload_n d_PR_readString_42 rfl rfl ?_
        refine w_get d_PR_readString_43 f_PR_42 hp rfl ?_
        refine w_iload_n d_PR_readString_46 rfl ?_
        refine w_iadd d_PR_readString_47 ?_
        refine w_topi (y := nI (nx + 2)) (nI_add _ _) ?_
        refine w_iconst (v := nI 1) d_PR_readString_48 (by decide) ?_
        refine w_iadd d_PR_readString_49 ?_
        refine w_topi (y := nI (nx + 2 + 1)) (nI_add _ _) ?_
        refine w_callV (as := [.int (nI (nx + 2 + 1))]) (st := []) d_PR_readString_50 yM_TR_kindAt l_PR_52 vM_TR_kindAt trp rfl rfl rfl rfl (m_TR_kindAt htr (by omega)) (by decide) (by decide) (by decide) (by decide) (Nat.le_of_ble_eq_true rfl) ?_
        rintro _ h9_6 ⟨rfl, e9_6⟩
        rw [e9_6]
        refine w_eq (st' := [.int (nI (kd tk (nx + 2 + 1)))]) rfl ?_
        refine w_bipush (v := nI 8) d_PR_readString_53 (by decide) ?_
        refine w_icmp_eq (tgt := 60) d_PR_readString_55 rfl (fun c55 => ?_) (fun c55 => ?_)
        · have c55 : kd tk (nx + 2 + 1) = 8 := (nI_eq (by have := kd_le hkd (nx + 2 + 1); omega) (by decide)).mp c55
          obtain ⟨a, ha, hva⟩ := kd_ch hkd c23_1
          obtain ⟨bb, hbb, hvbb⟩ := kd_ch hkd c23_2
          refine w_aload_n d_PR_readString_60 rfl rfl ?_
          refine w_get d_PR_readString_61 f_PR_12 hp rfl ?_
          refine w_aload_n d_PR_readString_64 rfl rfl ?_
          refine w_get d_PR_readString_65 f_PR_42 hp rfl ?_
          refine w_iconst (v := nI 1) d_PR_readString_68 (by decide) ?_
          refine w_iadd d_PR_readString_69 ?_
          refine w_topi (y := nI (nx + 1)) (nI_add _ _) ?_
          refine w_callV (as := [.int (nI (nx + 1))]) (st := []) d_PR_readString_70 yM_TR_valueAt l_PR_106 vM_TR_valueAt trp rfl rfl rfl rfl (m_TR_valueAt htr (by omega)) (by decide) (by decide) (by decide) (by decide) (Nat.le_of_ble_eq_true rfl) ?_
          rintro _ h9_7 ⟨rfl, e9_7⟩
          rw [e9_7]
          refine w_eq (st' := [.int (vl tk (nx + 1))]) rfl ?_
          refine w_topi (y := nI a) hva ?_
          refine w_istore_n d_PR_readString_73 (by decide) ?_
          refine w_pl (pl' := [some (.ref 13), some (.int (nI 2)), some (.int (nI a)), none]) rfl ?_
          refine w_iload_n d_PR_readString_74 rfl ?_
          refine w_iconst (v := nI 1) d_PR_readString_75 (by decide) ?_
          refine w_icmp_ne (tgt := 96) d_PR_readString_76 rfl (fun _ => ?_) (fun z => absurd z (by decide))
          refine w_iload_n d_PR_readString_96 rfl ?_
          refine w_iconst (v := nI 3) d_PR_readString_97 (by decide) ?_
          refine w_icmp_ne (tgt := 117) d_PR_readString_98 rfl (fun _ => ?_) (fun z => absurd z (by decide))
          refine w_iconst (v := -1) d_PR_readString_117 (by decide) ?_
          refine w_istore_n d_PR_readString_118 (by decide) ?_
          refine w_pl (pl' := [some (.ref 13), some (.int (nI 2)), some (.int (nI a)), some (.int (-1))]) rfl ?_
          refine w_aload_n d_PR_readString_119 rfl rfl ?_
          refine w_get d_PR_readString_120 f_PR_27 hp rfl ?_
          refine w_iload_n d_PR_readString_123 rfl ?_
          refine w_aload_n d_PR_readString_124 rfl rfl ?_
          refine w_get d_PR_readString_125 f_PR_12 hp rfl ?_
          refine w_aload_n d_PR_readString_128 rfl rfl ?_
          refine w_get d_PR_readString_129 f_PR_42 hp rfl ?_
          refine w_iconst (v := nI 2) d_PR_readString_132 (by decide) ?_
          refine w_iadd d_PR_readString_133 ?_
          refine w_topi (y := nI (nx + 2)) (nI_add _ _) ?_
          refine w_callV (as := [.int (nI (nx + 2))]) (st := [.int (nI a), .ref o]) d_PR_readString_134 yM_TR_valueAt l_PR_106 vM_TR_valueAt trp rfl rfl rfl rfl (m_TR_valueAt htr (by omega)) (by decide) (by decide) (by decide) (by decide) (Nat.le_of_ble_eq_true rfl) ?_
          rintro _ h9_8 ⟨rfl, e9_8⟩
          rw [e9_8]
          refine w_eq (st' := [.int (vl tk (nx + 2)), .int (nI a), .ref o]) rfl ?_
          refine w_topi (y := nI bb) hvbb ?_
          refine w_iload_n d_PR_readString_137 rfl ?_
          refine w_callS (as := [.int (nI a), .int (nI bb), .int (-1)]) (st := [.ref o]) d_PR_readString_138 yM_MS_keyOf l_PR_123 sM_MS_keyOf rfl rfl (m_MS_keyOf ha hbb (t := 0) (x := -1) (by decide) (by omega)) (by decide) (by decide) (by decide) (by decide) (Nat.le_of_ble_eq_true rfl) ?_
          rintro _ h9_9 ⟨rfl, e9_9⟩
          rw [e9_9]
          refine w_eq (st' := [.long (lN (kOf a bb 0)), .ref o]) rfl ?_
          refine w_callV (as := [.long (lN (kOf a bb 0))]) (st := []) d_PR_readString_141 yM_MS_becomeString l_PR_127 vM_MS_becomeString gp rfl rfl rfl rfl (m_MS_becomeString hop) (by decide) (by decide) (by decide) (by decide) (Nat.le_of_ble_eq_true rfl) ?_
          rintro _ h1_ ⟨rfl, hm1, ho1⟩
          refine w_eq (st' := []) rfl ?_
          have hq1 := hq0.so hm1 ho1
          have hp1 := hq1.1
          refine w_aload_n d_PR_readString_144 rfl rfl ?_
          refine w_dup d_PR_readString_145 rfl ?_
          refine w_get d_PR_readString_146 f_PR_42 hp1 rfl ?_
          refine w_iload_n d_PR_readString_149 rfl ?_
          refine w_iconst (v := nI 2) d_PR_readString_150 (by decide) ?_
          refine w_iadd d_PR_readString_151 ?_
          refine w_topi (y := nI 4) (by decide) ?_
          refine w_iadd d_PR_readString_152 ?_
          refine w_topi (y := nI (nx + 4)) (nI_add _ _) ?_
          refine w_put d_PR_readString_153 f_PR_42 rfl hp1 rfl rfl rfl ?_
          refine w_nm (fun h10 e10 => ?_)
          have hp1_10 := wS_eq e10 hp1
          refine w_aload_n d_PR_readString_156 rfl rfl ?_
          refine w_aload_n d_PR_readString_157 rfl rfl ?_
          refine w_get d_PR_readString_158 f_PR_27 hp1_10 rfl ?_
          refine w_iconst (v := nI 0) d_PR_readString_161 (by decide) ?_
          have hq2 := hq1.ob hp1_10 (fun j hj => by rw [wS_off e10 (by omega)])
          have hm2 := hm1.keep (h' := h10) (fun j h1 h2 => by rw [wS_off e10 (by omega)])
          have ho2 : wOff h h10 13 35 := fun j hj => by rw [wS_off e10 (by omega), ho1 j (by omega)]
          refine w_callV (as := [.ref o, .int (nI 0)]) (st := []) d_PR_readString_162 yM_PR_join l_PR_102 vM_PR_join hp1_10 rfl rfl rfl rfl (m_PR_joinA hq2 (I := (([], [(kOf a bb 0)]) : List Nat × List Nat)) (z := false) hb hm2 po pos1 (iOk_key ⟨a, bb, 0, ha, hbb, by omega, rfl⟩) (Nat.zero_le _)) (by decide) (by decide) (by decide) (by decide) (Nat.le_of_ble_eq_true rfl) ?_
          rintro _ h9 ⟨ho9, rfl, hr9⟩
          refine w_eq (st' := [.int (bI (rJoin B d (nx + 4) (([], [(kOf a bb 0)]) : List Nat × List Nat) false).isSome)]) rfl ?_
          rw [← hEN]
          refine w_zret d_PR_readString_165 rfl (bI_01 _) ?_
          have hrc : rStr tk B d nx = rJoin B d (nx + 4) ([], [(kOf a bb 0)]) false := by
            unfold rStr
            rw [if_neg (fun z => z.elim (fun y => by omega) (fun y => y (by rw [hw9]; exact c55))), if_neg (by omega), hw9, if_neg (by decide), hva, hvbb, nV_nI ha, nV_nI hbb]
          rw [hrc]
          exact ⟨ho2.tr ho9, rfl, hr9⟩
        · have c55 : ¬ kd tk (nx + 2 + 1) = 8 := fun z => c55 (by rw [z])
          refine w_iconst (v := nI 0) d_PR_readString_58 (by decide) ?_
          rw [← hEN]
          refine w_zret d_PR_readString_59 rfl (by first | exact Or.inl rfl | exact Or.inr rfl) ?_
          have hrc : rStr tk B d nx = none := by unfold rStr; rw [if_pos (Or.inr (by rw [hw9]; exact c55))]
          rw [hrc]
          exact ⟨wOff.rf, rfl, ⟨_, _, _, _, _, _, _, _, hq0⟩, fun B' d' nx' V hV => by cases hV⟩
      · have c23_3 : kd tk (nx + 3) = 1 := (nI_eq (by have := kd_le hkd (nx + 3); omega) (by decide)).mp c23_3
        refine w_iload_n d_PR_readString_26 rfl ?_
        refine w_istore_n d_PR_readString_27 (by decide) ?_
        refine w_pl (pl' := [some (.ref 13), some (.int (nI 3)), some (.int (nI 3)), none]) rfl ?_
        refine w_iinc (v := nI 4) d_PR_readString_28 rfl (by decide) (by decide) ?_
        refine w_pl (pl' := [some (.ref 13), some (.int (nI 3)), some (.int (nI 4)), none]) rfl ?_
        refine w_goto (tgt := 4) d_PR_readString_31 rfl ?_
        refine w_iload_n d_PR_readString_4 rfl ?_
        refine w_iconst (v := nI 3) d_PR_readString_5 (by decide) ?_
        refine w_icmp_gt (tgt := 34) d_PR_readString_6 rfl (fun _ => ?_) (fun z => absurd (by decide) z)
        have hw9 : rWid tk nx = 3 := by unfold rWid; rw [if_pos c23_1, if_pos c23_2, if_pos c23_3]
        refine w_iload_n d_PR_readString_34 rfl ?_
        refine w_if_eq (tgt := 58) d_PR_readString_35 rfl (fun z => absurd z (by decide)) (fun _ => ?_)
        refine w_aload_n d_PR_readString_38 rfl rfl ?_
        refine w_get d_PR_readString_39 f_PR_12 hp rfl ?_
        refine w_aload_n d_PR_readString_42 rfl rfl ?_
        refine w_get d_PR_readString_43 f_PR_42 hp rfl ?_
        refine w_iload_n d_PR_readString_46 rfl ?_
        refine w_iadd d_PR_readString_47 ?_
        refine w_topi (y := nI (nx + 3)) (nI_add _ _) ?_
        refine w_iconst (v := nI 1) d_PR_readString_48 (by decide) ?_
        refine w_iadd d_PR_readString_49 ?_
        refine w_topi (y := nI (nx + 3 + 1)) (nI_add _ _) ?_
        refine w_callV (as := [.int (nI (nx + 3 + 1))]) (st := []) d_PR_readString_50 yM_TR_kindAt l_PR_52 vM_TR_kindAt trp rfl rfl rfl rfl (m_TR_kindAt htr (by omega)) (by decide) (by decide) (by decide) (by decide) (Nat.le_of_ble_eq_true rfl) ?_
        rintro _ h9_11 ⟨rfl, e9_11⟩
        rw [e9_11]
        refine w_eq (st' := [.int (nI (kd tk (nx + 3 + 1)))]) rfl ?_
        refine w_bipush (v := nI 8) d_PR_readString_53 (by decide) ?_
        refine w_icmp_eq (tgt := 60) d_PR_readString_55 rfl (fun c55 => ?_) (fun c55 => ?_)
        · have c55 : kd tk (nx + 3 + 1) = 8 := (nI_eq (by have := kd_le hkd (nx + 3 + 1); omega) (by decide)).mp c55
          obtain ⟨a, ha, hva⟩ := kd_ch hkd c23_1
          obtain ⟨bb, hbb, hvbb⟩ := kd_ch hkd c23_2
          obtain ⟨e, he, hve⟩ := kd_ch hkd c23_3
          refine w_aload_n d_PR_readString_60 rfl rfl ?_
          refine w_get d_PR_readString_61 f_PR_12 hp rfl ?_
          refine w_aload_n d_PR_readString_64 rfl rfl ?_
          refine w_get d_PR_readString_65 f_PR_42 hp rfl ?_
          refine w_iconst (v := nI 1) d_PR_readString_68 (by decide) ?_
          refine w_iadd d_PR_readString_69 ?_
          refine w_topi (y := nI (nx + 1)) (nI_add _ _) ?_
          refine w_callV (as := [.int (nI (nx + 1))]) (st := []) d_PR_readString_70 yM_TR_valueAt l_PR_106 vM_TR_valueAt trp rfl rfl rfl rfl (m_TR_valueAt htr (by omega)) (by decide) (by decide) (by decide) (by decide) (Nat.le_of_ble_eq_true rfl) ?_
          rintro _ h9_12 ⟨rfl, e9_12⟩
          rw [e9_12]
          refine w_eq (st' := [.int (vl tk (nx + 1))]) rfl ?_
          refine w_topi (y := nI a) hva ?_
          refine w_istore_n d_PR_readString_73 (by decide) ?_
          refine w_pl (pl' := [some (.ref 13), some (.int (nI 3)), some (.int (nI a)), none]) rfl ?_
          refine w_iload_n d_PR_readString_74 rfl ?_
          refine w_iconst (v := nI 1) d_PR_readString_75 (by decide) ?_
          refine w_icmp_ne (tgt := 96) d_PR_readString_76 rfl (fun _ => ?_) (fun z => absurd z (by decide))
          refine w_iload_n d_PR_readString_96 rfl ?_
          refine w_iconst (v := nI 3) d_PR_readString_97 (by decide) ?_
          refine w_icmp_ne (tgt := 117) d_PR_readString_98 rfl (fun z => absurd (by decide) z) (fun _ => ?_)
          refine w_aload_n d_PR_readString_101 rfl rfl ?_
          refine w_get d_PR_readString_102 f_PR_12 hp rfl ?_
          refine w_aload_n d_PR_readString_105 rfl rfl ?_
          refine w_get d_PR_readString_106 f_PR_42 hp rfl ?_
          refine w_iconst (v := nI 3) d_PR_readString_109 (by decide) ?_
          refine w_iadd d_PR_readString_110 ?_
          refine w_topi (y := nI (nx + 3)) (nI_add _ _) ?_
          refine w_callV (as := [.int (nI (nx + 3))]) (st := []) d_PR_readString_111 yM_TR_valueAt l_PR_106 vM_TR_valueAt trp rfl rfl rfl rfl (m_TR_valueAt htr (by omega)) (by decide) (by decide) (by decide) (by decide) (Nat.le_of_ble_eq_true rfl) ?_
          rintro _ h9_13 ⟨rfl, e9_13⟩
          rw [e9_13]
          refine w_eq (st' := [.int (vl tk (nx + 3))]) rfl ?_
          refine w_topi (y := nI e) hve ?_
          refine w_goto (tgt := 118) d_PR_readString_114 rfl ?_
          refine w_istore_n d_PR_readString_118 (by decide) ?_
          refine w_pl (pl' := [some (.ref 13), some (.int (nI 3)), some (.int (nI a)), some (.int (nI e))]) rfl ?_
          refine w_aload_n d_PR_readString_119 rfl rfl ?_
          refine w_get d_PR_readString_120 f_PR_27 hp rfl ?_
          refine w_iload_n d_PR_readString_123 rfl ?_
          refine w_aload_n d_PR_readString_124 rfl rfl ?_
          refine w_get d_PR_readString_125 f_PR_12 hp rfl ?_
          refine w_aload_n d_PR_readString_128 rfl rfl ?_
          refine w_get d_PR_readString_129 f_PR_42 hp rfl ?_
          refine w_iconst (v := nI 2) d_PR_readString_132 (by decide) ?_
          refine w_iadd d_PR_readString_133 ?_
          refine w_topi (y := nI (nx + 2)) (nI_add _ _) ?_
          refine w_callV (as := [.int (nI (nx + 2))]) (st := [.int (nI a), .ref o]) d_PR_readString_134 yM_TR_valueAt l_PR_106 vM_TR_valueAt trp rfl rfl rfl rfl (m_TR_valueAt htr (by omega)) (by decide) (by decide) (by decide) (by decide) (Nat.le_of_ble_eq_true rfl) ?_
          rintro _ h9_14 ⟨rfl, e9_14⟩
          rw [e9_14]
          refine w_eq (st' := [.int (vl tk (nx + 2)), .int (nI a), .ref o]) rfl ?_
          refine w_topi (y := nI bb) hvbb ?_
          refine w_iload_n d_PR_readString_137 rfl ?_
          refine w_callS (as := [.int (nI a), .int (nI bb), .int (nI e)]) (st := [.ref o]) d_PR_readString_138 yM_MS_keyOf l_PR_123 sM_MS_keyOf rfl rfl (m_MS_keyOf ha hbb (t := e + 1) (x := nI e) (by rw [nI_l (by omega)]; exact lN_add e 1) (by omega)) (by decide) (by decide) (by decide) (by decide) (Nat.le_of_ble_eq_true rfl) ?_
          rintro _ h9_15 ⟨rfl, e9_15⟩
          rw [e9_15]
          refine w_eq (st' := [.long (lN (kOf a bb (e + 1))), .ref o]) rfl ?_
          refine w_callV (as := [.long (lN (kOf a bb (e + 1)))]) (st := []) d_PR_readString_141 yM_MS_becomeString l_PR_127 vM_MS_becomeString gp rfl rfl rfl rfl (m_MS_becomeString hop) (by decide) (by decide) (by decide) (by decide) (Nat.le_of_ble_eq_true rfl) ?_
          rintro _ h1_ ⟨rfl, hm1, ho1⟩
          refine w_eq (st' := []) rfl ?_
          have hq1 := hq0.so hm1 ho1
          have hp1 := hq1.1
          refine w_aload_n d_PR_readString_144 rfl rfl ?_
          refine w_dup d_PR_readString_145 rfl ?_
          refine w_get d_PR_readString_146 f_PR_42 hp1 rfl ?_
          refine w_iload_n d_PR_readString_149 rfl ?_
          refine w_iconst (v := nI 2) d_PR_readString_150 (by decide) ?_
          refine w_iadd d_PR_readString_151 ?_
          refine w_topi (y := nI 5) (by decide) ?_
          refine w_iadd d_PR_readString_152 ?_
          refine w_topi (y := nI (nx + 5)) (nI_add _ _) ?_
          refine w_put d_PR_readString_153 f_PR_42 rfl hp1 rfl rfl rfl ?_
          refine w_nm (fun h16 e16 => ?_)
          have hp1_16 := wS_eq e16 hp1
          refine w_aload_n d_PR_readString_156 rfl rfl ?_
          refine w_aload_n d_PR_readString_157 rfl rfl ?_
          refine w_get d_PR_readString_158 f_PR_27 hp1_16 rfl ?_
          refine w_iconst (v := nI 0) d_PR_readString_161 (by decide) ?_
          have hq2 := hq1.ob hp1_16 (fun j hj => by rw [wS_off e16 (by omega)])
          have hm2 := hm1.keep (h' := h16) (fun j h1 h2 => by rw [wS_off e16 (by omega)])
          have ho2 : wOff h h16 13 35 := fun j hj => by rw [wS_off e16 (by omega), ho1 j (by omega)]
          refine w_callV (as := [.ref o, .int (nI 0)]) (st := []) d_PR_readString_162 yM_PR_join l_PR_102 vM_PR_join hp1_16 rfl rfl rfl rfl (m_PR_joinA hq2 (I := (([], [(kOf a bb (e + 1))]) : List Nat × List Nat)) (z := false) hb hm2 po pos1 (iOk_key ⟨a, bb, e + 1, ha, hbb, by omega, rfl⟩) (Nat.zero_le _)) (by decide) (by decide) (by decide) (by decide) (Nat.le_of_ble_eq_true rfl) ?_
          rintro _ h9 ⟨ho9, rfl, hr9⟩
          refine w_eq (st' := [.int (bI (rJoin B d (nx + 5) (([], [(kOf a bb (e + 1))]) : List Nat × List Nat) false).isSome)]) rfl ?_
          rw [← hEN]
          refine w_zret d_PR_readString_165 rfl (bI_01 _) ?_
          have hrc : rStr tk B d nx = rJoin B d (nx + 5) ([], [(kOf a bb (e + 1))]) false := by
            unfold rStr
            rw [if_neg (fun z => z.elim (fun y => by omega) (fun y => y (by rw [hw9]; exact c55))), if_neg (by omega), hw9, if_pos rfl, hva, hvbb, hve, nV_nI ha, nV_nI hbb, nV_nI he]
          rw [hrc]
          exact ⟨ho2.tr ho9, rfl, hr9⟩
        · have c55 : ¬ kd tk (nx + 3 + 1) = 8 := fun z => c55 (by rw [z])
          refine w_iconst (v := nI 0) d_PR_readString_58 (by decide) ?_
          rw [← hEN]
          refine w_zret d_PR_readString_59 rfl (by first | exact Or.inl rfl | exact Or.inr rfl) ?_
          have hrc : rStr tk B d nx = none := by unfold rStr; rw [if_pos (Or.inr (by rw [hw9]; exact c55))]
          rw [hrc]
          exact ⟨wOff.rf, rfl, ⟨_, _, _, _, _, _, _, _, hq0⟩, fun B' d' nx' V hV => by cases hV⟩
set_option maxHeartbeats 4000000 in
set_option maxRecDepth 100000 in
theorem m_PR_prop0 (hT : xTab X) {h : wH} {tk : List (Nat × Int32)} {B : Nat → Br} {nx o s v d : Nat} {b : Nat → Nat} (hq : hPR h tk B d nx o s v b) (hb : bOk B d) (hnx : nx < 2 ^ 20) {n : Nat} (hn : n < 10) (hvn : vl tk nx = nI n) : PM X M_PR_readProperty 4 0 0 [.ref 13, .int (nI 0)] h (rQ (rProp tk B d nx false) h tk) := by
  have hq0 := hq; obtain ⟨hp, ⟨t, l, pos, htr⟩, ⟨f, har, hfr⟩, hbr, ⟨E1, S1, hop⟩, ⟨E2, S2, hsp⟩, po, ps, pb, pos1, pbo, pbb⟩ := hq
  have trp := htr.choose_spec.choose_spec.1; have hl60 : tk.length ≤ 60 := htr.choose_spec.choose_spec.2.2.2.2.2.1
  have hb5 := hb.1
  have io := P1_in po
  have is := P1_in ps
  obtain ⟨gf, gk, gp, ga, gb, gl1, gl2, ghf, ghk⟩ := id hop
  obtain ⟨tOk1, tOk2, tOk3⟩ := tabL_ok n hn
  have hTn : tabL[n]? = some (tabL.getD n []) := by rw [List.getD_eq_getElem?_getD, List.getElem?_eq_getElem (show n < tabL.length from by have : tabL.length = 13 := rfl; omega)]; rfl
  have hrt : rTab (nI n) = tabL.getD n [] := by unfold rTab; rw [nI_clamp (by omega)]
  rw [show rProp tk B d nx false = rJoin B d (nx + 1) ((rTab (nI n), []) : List Nat × List Nat) true by unfold rProp; rw [hvn]; rfl]
  refine PM.at (pl := [some (.ref 13), some (.int (nI 0)), none]) rfl rfl (by simp [wle, wen]) ?_
  generalize hEN : wEm X 0 0 _ = EN
  refine w_aload_n d_PR_readProperty_0 rfl rfl ?_
  refine w_get d_PR_readProperty_1 f_PR_27 hp rfl ?_
  refine w_aload_n d_PR_readProperty_4 rfl rfl ?_
  refine w_get d_PR_readProperty_5 f_PR_12 hp rfl ?_
  refine w_aload_n d_PR_readProperty_8 rfl rfl ?_
  refine w_get d_PR_readProperty_9 f_PR_42 hp rfl ?_
  refine w_callV (as := [.int (nI nx)]) (st := [.ref o]) d_PR_readProperty_12 yM_TR_valueAt l_PR_106 vM_TR_valueAt trp rfl rfl rfl rfl (m_TR_valueAt htr (by omega)) (by decide) (by decide) (by decide) (by decide) (Nat.le_of_ble_eq_true rfl) ?_
  rintro _ h9_1 ⟨rfl, e9_1⟩
  rw [e9_1]
  refine w_eq (st' := [.int (vl tk nx), .ref o]) rfl ?_
  refine w_topi (y := nI n) hvn ?_
  refine w_callS (as := [.int (nI n)]) (st := [.ref o]) d_PR_readProperty_15 yM_NS_edgesOf l_PR_109 sM_NS_edgesOf rfl rfl (m_NS_edgesOf hn) (by decide) (by decide) (by decide) (by decide) (Nat.le_of_ble_eq_true rfl) ?_
  rintro _ h9_2 ⟨rfl, e9_2⟩
  rw [e9_2]
  refine w_eq (st' := [.ref (1000 + n), .ref o]) rfl ?_
  refine w_callV (as := [.ref (1000 + n)]) (st := []) d_PR_readProperty_18 yM_MS_becomeEdges l_PR_115 vM_MS_becomeEdges gp rfl rfl rfl rfl (m_MS_becomeEdges hop (hT n _ hTn) (fun i x hx => by rw [List.getD_eq_getElem?_getD, hx]; rfl) ⟨tOk1, tOk2⟩ (by omega)) (by decide) (by decide) (by decide) (by decide) (Nat.le_of_ble_eq_true rfl) ?_
  rintro _ h1_ ⟨rfl, hm1, ho1⟩
  refine w_eq (st' := []) rfl ?_
  rw [← hrt] at hm1
  have hq1 := hq0.so hm1 ho1
  have hp1 := hq1.1
  obtain ⟨uE, uS, hs1⟩ := hq1.2.2.2.2.2.1
  have up1 := hs1.choose_spec.choose_spec.1
  refine w_iload_n d_PR_readProperty_21 rfl ?_
  refine w_if_eq (tgt := 54) d_PR_readProperty_22 rfl (fun _ => ?_) (fun z => absurd (by decide) z)
  refine w_aload_n d_PR_readProperty_54 rfl rfl ?_
  refine w_dup d_PR_readProperty_55 rfl ?_
  refine w_get d_PR_readProperty_56 f_PR_42 hp1 rfl ?_
  refine w_iconst (v := nI 1) d_PR_readProperty_59 (by decide) ?_
  refine w_iadd d_PR_readProperty_60 ?_
  refine w_topi (y := nI (nx + 1)) (nI_add _ _) ?_
  refine w_put d_PR_readProperty_61 f_PR_42 rfl hp1 rfl rfl rfl ?_
  refine w_nm (fun h3 e3 => ?_)
  have hp1_3 := wS_eq e3 hp1
  refine w_aload_n d_PR_readProperty_64 rfl rfl ?_
  refine w_aload_n d_PR_readProperty_65 rfl rfl ?_
  refine w_get d_PR_readProperty_66 f_PR_27 hp1_3 rfl ?_
  refine w_iconst (v := nI 1) d_PR_readProperty_69 (by decide) ?_
  have hq3 := hq1.ob hp1_3 (fun j hj => by rw [wS_off e3 (by omega)])
  have hm3 := hm1.keep (h' := h3) (fun j h1 h2 => by rw [wS_off e3 (by omega)])
  have ho3 : wOff h h3 13 35 := fun j hj => by rw [wS_off e3 (by omega), ho1 j (by omega)]
  refine w_callV (as := [.ref o, .int (nI 1)]) (st := []) d_PR_readProperty_70 yM_PR_join l_PR_102 vM_PR_join hp1_3 rfl rfl rfl rfl (m_PR_joinA hq3 (I := ((rTab (nI n), []) : List Nat × List Nat)) (z := true) hb hm3 po pos1 (iOk_tab hn).1 (by have := (iOk_tab hn).2; show (rTab (nI n)).length ≤ 200; omega)) (by decide) (by decide) (by decide) (by decide) (Nat.le_of_ble_eq_true rfl) ?_
  rintro _ h9 ⟨ho9, rfl, hr9⟩
  refine w_eq (st' := [.int (bI (rJoin B d (nx + 1) ((rTab (nI n), []) : List Nat × List Nat) true).isSome)]) rfl ?_
  rw [← hEN]
  refine w_zret d_PR_readProperty_73 rfl (bI_01 _) ?_
  exact ⟨ho3.tr ho9, rfl, hr9⟩
set_option maxHeartbeats 4000000 in
set_option maxRecDepth 100000 in
theorem m_PR_prop1 (hT : xTab X) {h : wH} {tk : List (Nat × Int32)} {B : Nat → Br} {nx o s v d : Nat} {b : Nat → Nat} (hq : hPR h tk B d nx o s v b) (hb : bOk B d) (hnx : nx < 2 ^ 20) {n : Nat} (hn : n < 10) (hvn : vl tk nx = nI n) : PM X M_PR_readProperty 4 0 0 [.ref 13, .int (nI 1)] h (rQ (rProp tk B d nx true) h tk) := by
  have hq0 := hq; obtain ⟨hp, ⟨t, l, pos, htr⟩, ⟨f, har, hfr⟩, hbr, ⟨E1, S1, hop⟩, ⟨E2, S2, hsp⟩, po, ps, pb, pos1, pbo, pbb⟩ := hq
  have trp := htr.choose_spec.choose_spec.1; have hl60 : tk.length ≤ 60 := htr.choose_spec.choose_spec.2.2.2.2.2.1
  have hb5 := hb.1
  have io := P1_in po
  have is := P1_in ps
  obtain ⟨gf, gk, gp, ga, gb, gl1, gl2, ghf, ghk⟩ := id hop
  obtain ⟨tOk1, tOk2, tOk3⟩ := tabL_ok n hn
  have hTn : tabL[n]? = some (tabL.getD n []) := by rw [List.getD_eq_getElem?_getD, List.getElem?_eq_getElem (show n < tabL.length from by have : tabL.length = 13 := rfl; omega)]; rfl
  have hrt : rTab (nI n) = tabL.getD n [] := by unfold rTab; rw [nI_clamp (by omega)]
  rw [show rProp tk B d nx true = rJoin B d (nx + 1) ((eCmb 3 (rTab (nI n)) [0, 1114112], []) : List Nat × List Nat) true by unfold rProp; rw [hvn]; rfl]
  refine PM.at (pl := [some (.ref 13), some (.int (nI 1)), none]) rfl rfl (by simp [wle, wen]) ?_
  generalize hEN : wEm X 0 0 _ = EN
  refine w_aload_n d_PR_readProperty_0 rfl rfl ?_
  refine w_get d_PR_readProperty_1 f_PR_27 hp rfl ?_
  refine w_aload_n d_PR_readProperty_4 rfl rfl ?_
  refine w_get d_PR_readProperty_5 f_PR_12 hp rfl ?_
  refine w_aload_n d_PR_readProperty_8 rfl rfl ?_
  refine w_get d_PR_readProperty_9 f_PR_42 hp rfl ?_
  refine w_callV (as := [.int (nI nx)]) (st := [.ref o]) d_PR_readProperty_12 yM_TR_valueAt l_PR_106 vM_TR_valueAt trp rfl rfl rfl rfl (m_TR_valueAt htr (by omega)) (by decide) (by decide) (by decide) (by decide) (Nat.le_of_ble_eq_true rfl) ?_
  rintro _ h9_1 ⟨rfl, e9_1⟩
  rw [e9_1]
  refine w_eq (st' := [.int (vl tk nx), .ref o]) rfl ?_
  refine w_topi (y := nI n) hvn ?_
  refine w_callS (as := [.int (nI n)]) (st := [.ref o]) d_PR_readProperty_15 yM_NS_edgesOf l_PR_109 sM_NS_edgesOf rfl rfl (m_NS_edgesOf hn) (by decide) (by decide) (by decide) (by decide) (Nat.le_of_ble_eq_true rfl) ?_
  rintro _ h9_2 ⟨rfl, e9_2⟩
  rw [e9_2]
  refine w_eq (st' := [.ref (1000 + n), .ref o]) rfl ?_
  refine w_callV (as := [.ref (1000 + n)]) (st := []) d_PR_readProperty_18 yM_MS_becomeEdges l_PR_115 vM_MS_becomeEdges gp rfl rfl rfl rfl (m_MS_becomeEdges hop (hT n _ hTn) (fun i x hx => by rw [List.getD_eq_getElem?_getD, hx]; rfl) ⟨tOk1, tOk2⟩ (by omega)) (by decide) (by decide) (by decide) (by decide) (Nat.le_of_ble_eq_true rfl) ?_
  rintro _ h1_ ⟨rfl, hm1, ho1⟩
  refine w_eq (st' := []) rfl ?_
  rw [← hrt] at hm1
  have hq1 := hq0.so hm1 ho1
  have hp1 := hq1.1
  obtain ⟨uE, uS, hs1⟩ := hq1.2.2.2.2.2.1
  have up1 := hs1.choose_spec.choose_spec.1
  refine w_iload_n d_PR_readProperty_21 rfl ?_
  refine w_if_eq (tgt := 54) d_PR_readProperty_22 rfl (fun z => absurd z (by decide)) (fun _ => ?_)
  refine w_aload_n d_PR_readProperty_25 rfl rfl ?_
  refine w_get d_PR_readProperty_26 f_PR_31 hp1 rfl ?_
  refine w_aload_n d_PR_readProperty_29 rfl rfl ?_
  refine w_get d_PR_readProperty_30 f_PR_27 hp1 rfl ?_
  refine w_callV (as := [.ref o]) (st := []) d_PR_readProperty_33 yM_MS_becomeOthers l_PR_98 vM_MS_becomeOthers up1 rfl rfl rfl rfl (m_MS_becomeOthers hs1 hm1 (P1_dj ps po (Ne.symm pos1)) (iOk_tab hn).1.1 (by have := (iOk_tab hn).2; omega)) (by decide) (by decide) (by decide) (by decide) (Nat.le_of_ble_eq_true rfl) ?_
  rintro _ h2_ ⟨rfl, hm2, ho2⟩
  refine w_eq (st' := []) rfl ?_
  have hq2 := hq1.ss hm2 ho2
  have hp2 := hq2.1
  refine w_aload_n d_PR_readProperty_36 rfl rfl ?_
  refine w_get d_PR_readProperty_37 f_PR_27 hp2 rfl ?_
  refine w_astore_n d_PR_readProperty_40 (by decide) rfl ?_
  refine w_pl (pl' := [some (.ref 13), some (.int (nI 1)), some (.ref o)]) rfl ?_
  refine w_aload_n d_PR_readProperty_41 rfl rfl ?_
  refine w_aload_n d_PR_readProperty_42 rfl rfl ?_
  refine w_get d_PR_readProperty_43 f_PR_31 hp2 rfl ?_
  refine w_put d_PR_readProperty_46 f_PR_27 rfl hp2 rfl rfl rfl ?_
  refine w_nm (fun h3 e3 => ?_)
  have hp2_3 := wS_eq e3 hp2
  refine w_aload_n d_PR_readProperty_49 rfl rfl ?_
  refine w_aload_n d_PR_readProperty_50 rfl rfl ?_
  refine w_put d_PR_readProperty_51 f_PR_31 rfl hp2_3 rfl rfl rfl ?_
  refine w_nm (fun h4 e4 => ?_)
  have hp2_4 := wS_eq e4 hp2_3
  refine w_aload_n d_PR_readProperty_54 rfl rfl ?_
  refine w_dup d_PR_readProperty_55 rfl ?_
  refine w_get d_PR_readProperty_56 f_PR_42 hp2_4 rfl ?_
  refine w_iconst (v := nI 1) d_PR_readProperty_59 (by decide) ?_
  refine w_iadd d_PR_readProperty_60 ?_
  refine w_topi (y := nI (nx + 1)) (nI_add _ _) ?_
  refine w_put d_PR_readProperty_61 f_PR_42 rfl hp2_4 rfl rfl rfl ?_
  refine w_nm (fun h5 e5 => ?_)
  have hp2_5 := wS_eq e5 hp2_4
  refine w_aload_n d_PR_readProperty_64 rfl rfl ?_
  refine w_aload_n d_PR_readProperty_65 rfl rfl ?_
  refine w_get d_PR_readProperty_66 f_PR_27 hp2_5 rfl ?_
  refine w_iconst (v := nI 1) d_PR_readProperty_69 (by decide) ?_
  have hq3 := hq2.os hp2_5 (fun j hj => by rw [wS_off e5 (by omega), wS_off e4 (by omega), wS_off e3 (by omega)])
  have hm3 := hm2.keep (h' := h5) (fun j h1 h2 => by rw [wS_off e5 (by omega), wS_off e4 (by omega), wS_off e3 (by omega)])
  have ho3 : wOff h h5 13 35 := fun j hj => by rw [wS_off e5 (by omega), wS_off e4 (by omega), wS_off e3 (by omega), ho2 j (by omega), ho1 j (by omega)]
  refine w_callV (as := [.ref s, .int (nI 1)]) (st := []) d_PR_readProperty_70 yM_PR_join l_PR_102 vM_PR_join hp2_5 rfl rfl rfl rfl (m_PR_joinA hq3 (I := ((eCmb 3 (rTab (nI n)) [0, 1114112], []) : List Nat × List Nat)) (z := true) hb hm3 ps (Ne.symm pos1) iOk_cmb (by have := eCmb_len 3 (rTab (nI n)) [0, 1114112]; have := (iOk_tab hn).2; simp only [List.length_cons, List.length_nil] at *; omega)) (by decide) (by decide) (by decide) (by decide) (Nat.le_of_ble_eq_true rfl) ?_
  rintro _ h9 ⟨ho9, rfl, hr9⟩
  refine w_eq (st' := [.int (bI (rJoin B d (nx + 1) ((eCmb 3 (rTab (nI n)) [0, 1114112], []) : List Nat × List Nat) true).isSome)]) rfl ?_
  rw [← hEN]
  refine w_zret d_PR_readProperty_73 rfl (bI_01 _) ?_
  exact ⟨ho3.tr ho9, rfl, hr9⟩
set_option maxHeartbeats 4000000 in
set_option maxRecDepth 100000 in
theorem m_PR_end0 {h : wH} {tk : List (Nat × Int32)} {B : Nat → Br} {nx o s v k : Nat} {b : Nat → Nat} (hq : hPR h tk B (k + 1) nx o s v b) (hb : bOk B (k + 1)) (hot : (B k).2.1 = false) : PM X M_PR_endBracket 4 0 0 [.ref 13] h (rQ (rEnd B (k + 1) nx) h tk) := by
  have hq0 := hq; obtain ⟨hp, ⟨t, l, pos, htr⟩, ⟨f, har, hfr⟩, hbr, ⟨E1, S1, hop⟩, ⟨E2, S2, hsp⟩, po, ps, pb, pos1, pbo, pbb⟩ := hq
  have hk : k < 5 := by have := hb.1; omega
  obtain ⟨kp, kms⟩ := hbr k hk
  have hbk := hb.2 k (by omega)
  have ik := P1_in (pb k hk)
  have iko := P1_ob (pb k hk) hk
  have is := P1_in ps
  have iso := P1_ob ps hk
  obtain ⟨gf, gk, gp, ga, gb, gl1, gl2, ghf, ghk⟩ := id kms
  rw [hot] at kp
  have hrc : rEnd B (k + 1) nx = rJoin B k (nx + 1) (B k).1 true := if_neg (by rw [hot]; decide)
  rw [hrc]
  refine PM.at (pl := [some (.ref 13), none, none]) rfl rfl (by simp [wle, wen]) ?_
  generalize hEN : wEm X 0 0 _ = EN
  refine w_aload_n d_PR_endBracket_0 rfl rfl ?_
  refine w_callV (as := []) (st := []) d_PR_endBracket_1 yM_PR_innermost l_PR_86 vM_PR_innermost hp rfl rfl rfl rfl (m_PR_inner hq0 hk) (by decide) (by decide) (by decide) (by decide) (Nat.le_of_ble_eq_true rfl) ?_
  rintro _ h9_1 ⟨rfl, e9_1⟩
  rw [e9_1]
  refine w_eq (st' := [.ref (28 + 4 * k)]) rfl ?_
  refine w_astore_n d_PR_endBracket_4 (by decide) rfl ?_
  refine w_pl (pl' := [some (.ref 13), some (.ref (28 + 4 * k)), none]) rfl ?_
  refine w_aload_n d_PR_endBracket_5 rfl rfl ?_
  refine w_get d_PR_endBracket_6 f_PR_90 kp rfl ?_
  refine w_if_eq (tgt := 53) d_PR_endBracket_9 rfl (fun _ => ?_) (fun z => absurd (rfl : bI false = 0) z)
  refine w_aload_n d_PR_endBracket_53 rfl rfl ?_
  refine w_dup d_PR_endBracket_54 rfl ?_
  refine w_get d_PR_endBracket_55 f_PR_38 hp rfl ?_
  refine w_iconst (v := nI 1) d_PR_endBracket_58 (by decide) ?_
  refine w_isub d_PR_endBracket_59 ?_
  refine w_topi (y := nI k) (nI_pred k) ?_
  refine w_put d_PR_endBracket_60 f_PR_38 rfl hp rfl rfl rfl ?_
  refine w_nm (fun h2 e2 => ?_)
  have hp_2 := wS_eq e2 hp
  have kp_2 := wS_ne e2 (by omega) kp
  refine w_aload_n d_PR_endBracket_63 rfl rfl ?_
  refine w_dup d_PR_endBracket_64 rfl ?_
  refine w_get d_PR_endBracket_65 f_PR_42 hp_2 rfl ?_
  refine w_iconst (v := nI 1) d_PR_endBracket_68 (by decide) ?_
  refine w_iadd d_PR_endBracket_69 ?_
  refine w_topi (y := nI (nx + 1)) (nI_add _ _) ?_
  refine w_put d_PR_endBracket_70 f_PR_42 rfl hp_2 rfl rfl rfl ?_
  refine w_nm (fun h3 e3 => ?_)
  have hp_3 := wS_eq e3 hp_2
  have kp_3 := wS_ne e3 (by omega) kp_2
  refine w_aload_n d_PR_endBracket_73 rfl rfl ?_
  refine w_aload_n d_PR_endBracket_74 rfl rfl ?_
  refine w_get d_PR_endBracket_75 f_PR_94 kp_3 rfl ?_
  refine w_iconst (v := nI 1) d_PR_endBracket_78 (by decide) ?_
  have hq3 := hq0.ob hp_3 (fun j hj => by rw [wS_off e3 (by omega), wS_off e2 (by omega)])
  have hm3 := kms.keep (h' := h3) (fun j h1 h2 => by rw [wS_off e3 (by omega), wS_off e2 (by omega)])
  have ho3 : wOff h h3 13 35 := fun j hj => by rw [wS_off e3 (by omega), wS_off e2 (by omega)]
  refine w_callV (as := [.ref (b k), .int (nI 1)]) (st := []) d_PR_endBracket_79 yM_PR_join l_PR_102 vM_PR_join hp_3 rfl rfl rfl rfl (m_PR_joinA hq3 (I := (B k).1) (z := true) (⟨by omega, fun j hj => hb.2 j (by omega)⟩ : bOk B k) hm3 (pb k hk) (pbo k hk).2 hbk.1 (by omega)) (by decide) (by decide) (by decide) (by decide) (Nat.le_of_ble_eq_true rfl) ?_
  rintro _ h9 ⟨ho9, rfl, hr9⟩
  refine w_eq (st' := [.int (bI (rJoin B k (nx + 1) (B k).1 true).isSome)]) rfl ?_
  rw [← hEN]
  refine w_zret d_PR_endBracket_82 rfl (bI_01 _) ?_
  exact ⟨ho3.tr ho9, rfl, hr9⟩
set_option maxHeartbeats 4000000 in
set_option maxRecDepth 100000 in
theorem m_PR_end1 {h : wH} {tk : List (Nat × Int32)} {B : Nat → Br} {nx o s v k : Nat} {b : Nat → Nat} (hq : hPR h tk B (k + 1) nx o s v b) (hb : bOk B (k + 1)) (hot : (B k).2.1 = true) : PM X M_PR_endBracket 4 0 0 [.ref 13] h (rQ (rEnd B (k + 1) nx) h tk) := by
  have hq0 := hq; obtain ⟨hp, ⟨t, l, pos, htr⟩, ⟨f, har, hfr⟩, hbr, ⟨E1, S1, hop⟩, ⟨E2, S2, hsp⟩, po, ps, pb, pos1, pbo, pbb⟩ := hq
  have hk : k < 5 := by have := hb.1; omega
  obtain ⟨kp, kms⟩ := hbr k hk
  have hbk := hb.2 k (by omega)
  have ik := P1_in (pb k hk)
  have iko := P1_ob (pb k hk) hk
  have is := P1_in ps
  have iso := P1_ob ps hk
  obtain ⟨gf, gk, gp, ga, gb, gl1, gl2, ghf, ghk⟩ := id kms
  rw [hot] at kp
  obtain ⟨sf, sk, sp9, sa, sb, sl1, sl2, shf, shk⟩ := id hsp
  refine PM.at (pl := [some (.ref 13), none, none]) rfl rfl (by simp [wle, wen]) ?_
  generalize hEN : wEm X 0 0 _ = EN
  refine w_aload_n d_PR_endBracket_0 rfl rfl ?_
  refine w_callV (as := []) (st := []) d_PR_endBracket_1 yM_PR_innermost l_PR_86 vM_PR_innermost hp rfl rfl rfl rfl (m_PR_inner hq0 hk) (by decide) (by decide) (by decide) (by decide) (Nat.le_of_ble_eq_true rfl) ?_
  rintro _ h9_1 ⟨rfl, e9_1⟩
  rw [e9_1]
  refine w_eq (st' := [.ref (28 + 4 * k)]) rfl ?_
  refine w_astore_n d_PR_endBracket_4 (by decide) rfl ?_
  refine w_pl (pl' := [some (.ref 13), some (.ref (28 + 4 * k)), none]) rfl ?_
  refine w_aload_n d_PR_endBracket_5 rfl rfl ?_
  refine w_get d_PR_endBracket_6 f_PR_90 kp rfl ?_
  refine w_if_eq (tgt := 53) d_PR_endBracket_9 rfl (fun z => absurd z (by decide)) (fun _ => ?_)
  refine w_aload_n d_PR_endBracket_12 rfl rfl ?_
  refine w_get d_PR_endBracket_13 f_PR_94 kp rfl ?_
  refine w_get d_PR_endBracket_16 f_PR_95 gp rfl ?_
  refine w_if_le (tgt := 24) d_PR_endBracket_19 rfl (fun c19 => ?_) (fun c19 => ?_)
  · have c19 : (B k).1.2 = [] := List.length_eq_zero_iff.mp (Nat.le_zero.mp ((nI_leI (a := (B k).1.2.length) (b := 0) (by omega) (by decide)).mp c19))
    refine w_aload_n d_PR_endBracket_24 rfl rfl ?_
    refine w_get d_PR_endBracket_25 f_PR_31 hp rfl ?_
    refine w_aload_n d_PR_endBracket_28 rfl rfl ?_
    refine w_get d_PR_endBracket_29 f_PR_94 kp rfl ?_
    refine w_callV (as := [.ref (b k)]) (st := []) d_PR_endBracket_32 yM_MS_becomeOthers l_PR_98 vM_MS_becomeOthers sp9 rfl rfl rfl rfl (m_MS_becomeOthers hsp kms (P1_dj ps (pb k hk) (Ne.symm (pbo k hk).2)) hbk.1.1 (by omega)) (by decide) (by decide) (by decide) (by decide) (Nat.le_of_ble_eq_true rfl) ?_
    rintro _ h1_ ⟨rfl, hm1, ho1⟩
    refine w_eq (st' := []) rfl ?_
    have hq1 := hq0.ss hm1 ho1
    have hp1 := hq1.1
    have kp1 := (hq1.2.2.2.1 k hk).1
    rw [hot] at kp1
    refine w_aload_n d_PR_endBracket_35 rfl rfl ?_
    refine w_get d_PR_endBracket_36 f_PR_94 kp1 rfl ?_
    refine w_astore_n d_PR_endBracket_39 (by decide) rfl ?_
    refine w_pl (pl' := [some (.ref 13), some (.ref (28 + 4 * k)), some (.ref (b k))]) rfl ?_
    refine w_aload_n d_PR_endBracket_40 rfl rfl ?_
    refine w_aload_n d_PR_endBracket_41 rfl rfl ?_
    refine w_get d_PR_endBracket_42 f_PR_31 hp1 rfl ?_
    refine w_put d_PR_endBracket_45 f_PR_94 rfl kp1 rfl rfl rfl ?_
    refine w_nm (fun h2 e2 => ?_)
    have hp1_2 := wS_ne e2 (by omega) hp1
    have kp1_2 := wS_eq e2 kp1
    refine w_aload_n d_PR_endBracket_48 rfl rfl ?_
    refine w_aload_n d_PR_endBracket_49 rfl rfl ?_
    refine w_put d_PR_endBracket_50 f_PR_31 rfl hp1_2 rfl rfl rfl ?_
    refine w_nm (fun h3 e3 => ?_)
    have hp1_3 := wS_eq e3 hp1_2
    have kp1_3 := wS_ne e3 (by omega) kp1_2
    refine w_aload_n d_PR_endBracket_53 rfl rfl ?_
    refine w_dup d_PR_endBracket_54 rfl ?_
    refine w_get d_PR_endBracket_55 f_PR_38 hp1_3 rfl ?_
    refine w_iconst (v := nI 1) d_PR_endBracket_58 (by decide) ?_
    refine w_isub d_PR_endBracket_59 ?_
    refine w_topi (y := nI k) (nI_pred k) ?_
    refine w_put d_PR_endBracket_60 f_PR_38 rfl hp1_3 rfl rfl rfl ?_
    refine w_nm (fun h4 e4 => ?_)
    have hp1_4 := wS_eq e4 hp1_3
    have kp1_4 := wS_ne e4 (by omega) kp1_3
    refine w_aload_n d_PR_endBracket_63 rfl rfl ?_
    refine w_dup d_PR_endBracket_64 rfl ?_
    refine w_get d_PR_endBracket_65 f_PR_42 hp1_4 rfl ?_
    refine w_iconst (v := nI 1) d_PR_endBracket_68 (by decide) ?_
    refine w_iadd d_PR_endBracket_69 ?_
    refine w_topi (y := nI (nx + 1)) (nI_add _ _) ?_
    refine w_put d_PR_endBracket_70 f_PR_42 rfl hp1_4 rfl rfl rfl ?_
    refine w_nm (fun h5 e5 => ?_)
    have hp1_5 := wS_eq e5 hp1_4
    have kp1_5 := wS_ne e5 (by omega) kp1_4
    refine w_aload_n d_PR_endBracket_73 rfl rfl ?_
    refine w_aload_n d_PR_endBracket_74 rfl rfl ?_
    refine w_get d_PR_endBracket_75 f_PR_94 kp1_5 rfl ?_
    refine w_iconst (v := nI 1) d_PR_endBracket_78 (by decide) ?_
    have hq3 := hq1.swap hk hm1 hp1_5 kp1_5 (fun j hj hj2 => by rw [wS_off e5 (by omega), wS_off e4 (by omega), wS_off e3 (by omega), wS_off e2 (by omega)])
    rw [show ((eCmb 3 (B k).1.1 [0, 1114112], []), true, (B k).2.2.1, (B k).2.2.2.1, (B k).2.2.2.2) = (((eCmb 3 (B k).1.1 [0, 1114112], []), (B k).2) : Br) by rw [← hot]] at hq3
    have hm3 := hm1.keep (h' := h5) (fun j h1 h2 => by rw [wS_off e5 (by omega), wS_off e4 (by omega), wS_off e3 (by omega), wS_off e2 (by omega)])
    have ho3 : wOff h h5 13 35 := fun j hj => by rw [wS_off e5 (by omega), wS_off e4 (by omega), wS_off e3 (by omega), wS_off e2 (by omega), ho1 j (by omega)]
    refine w_callV (as := [.ref s, .int (nI 1)]) (st := []) d_PR_endBracket_79 yM_PR_join l_PR_102 vM_PR_join hp1_5 rfl rfl rfl rfl (m_PR_joinA hq3 (I := ((eCmb 3 (B k).1.1 [0, 1114112], []) : List Nat × List Nat)) (z := true) (⟨by omega, fun j hj => by rw [bUp_ne _ _ (by omega)]; exact hb.2 j (by omega)⟩ : bOk (bUp B k ((eCmb 3 (B k).1.1 [0, 1114112], []), (B k).2)) k) hm3 ps (Ne.symm (pbo k hk).2) iOk_cmb (by have := eCmb_len 3 (B k).1.1 [0, 1114112]; simp only [List.length_cons, List.length_nil] at *; omega)) (by decide) (by decide) (by decide) (by decide) (Nat.le_of_ble_eq_true rfl) ?_
    rintro _ h9 ⟨ho9, rfl, hr9⟩
    refine w_eq (st' := [.int (bI (rJoin (bUp B k ((eCmb 3 (B k).1.1 [0, 1114112], []), (B k).2)) k (nx + 1) ((eCmb 3 (B k).1.1 [0, 1114112], []) : List Nat × List Nat) true).isSome)]) rfl ?_
    rw [← hEN]
    refine w_zret d_PR_endBracket_82 rfl (bI_01 _) ?_
    have hrc : rEnd B (k + 1) nx = rJoin (bUp B k ((eCmb 3 (B k).1.1 [0, 1114112], []), (B k).2)) k (nx + 1) ((eCmb 3 (B k).1.1 [0, 1114112], []) : List Nat × List Nat) true := by show (if _ then _ else _) = _; rw [if_pos hot, if_pos c19]
    rw [hrc]
    exact ⟨ho3.tr ho9, rfl, hr9⟩
  · have c19 : ¬ (B k).1.2 = [] := fun z => c19 (by rw [z]; decide)
    refine w_iconst (v := nI 0) d_PR_endBracket_22 (by decide) ?_
    rw [← hEN]
    refine w_zret d_PR_endBracket_23 rfl (by first | exact Or.inl rfl | exact Or.inr rfl) ?_
    have hrc : rEnd B (k + 1) nx = none := by show (if _ then _ else _) = _; rw [if_pos hot, if_neg c19]
    rw [hrc]
    exact ⟨wOff.rf, rfl, ⟨_, _, _, _, _, _, _, _, hq0⟩, fun B' d' nx' V hV => by cases hV⟩
end PR3
