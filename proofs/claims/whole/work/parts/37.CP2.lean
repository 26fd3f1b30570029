/-! CodePointSets, the calls: written by wip/gen/cp2.py -/
theorem sCmb_nil {S : List Nat} (h : eAsc S) : sCmb 0 S [] = S := by
  refine (sCmb_eq h (fun k => ?_)).symm
  unfold eDec
  simp
section CP2
variable {X : wX}
set_option maxHeartbeats 4000000 in
set_option maxRecDepth 100000 in
theorem m_CP_typeG {h : wH} {t : List Nat} {G : gG} {sp : Nat} {Es Ss : List Nat} {pr : Nat → Nat} (hq : hCQ h t G sp Es Ss pr) {c : Nat} (hc : c < 1114112) : PM X M_CP_type 1 0 0 [.ref 0, .int (nI c)] h (fun z h' => z = some (.int (bI (decide (t.length < 60)))) ∧ hCP h' (if t.length < 60 then t ++ [c] else t) G ∧ wOff h h' 0 57) := by
  have hq0 := hq; obtain ⟨hp, htx, ⟨f, har, hfr⟩, hrg, hss, ⟨A0, A1, hal⟩, ⟨o0, hwr⟩, hrd, p1, p2, p3, p4⟩ := hq
  obtain ⟨tf, tp, ta, t60, thf⟩ := id htx
  refine PM.at (pl := [some (.ref 0), some (.int (nI c))]) rfl rfl (by simp [wle, wen]) ?_
  generalize hEN : wEm X 0 0 _ = EN
  refine w_iload_n d_CP_type_0 rfl ?_
  refine w_callS (as := [.int (nI c)]) (st := []) d_CP_type_1 yM_CP_isCodePoint l_CP_44 sM_CP_isCodePoint rfl rfl (m_CP_isCodePoint) (by decide) (by decide) (by decide) (by decide) (Nat.le_of_ble_eq_true rfl) ?_
  rintro _ h9_1 ⟨rfl, e9_1⟩
  rw [e9_1]
  refine w_eq (st' := [.int (bI (decide (0 ≤ nI c ∧ nI c < nI 1114112)))]) rfl ?_
  refine w_topi (y := nI 1) (congrArg bI (decide_eq_true ⟨nI_pos' (by omega), nI_lt hc (by decide)⟩)) ?_
  refine w_if_eq (tgt := 22) d_CP_type_4 rfl (fun z => absurd z (by decide)) (fun _ => ?_)
  refine w_aload_n d_CP_type_7 rfl rfl ?_
  refine w_get d_CP_type_8 f_CP_10 hp rfl ?_
  refine w_iload_n d_CP_type_11 rfl ?_
  refine w_callV (as := [.int (nI c)]) (st := []) d_CP_type_12 yM_CR_append l_CP_48 vM_CR_append tp rfl rfl rfl rfl (m_CR_append htx) (by decide) (by decide) (by decide) (by decide) (Nat.le_of_ble_eq_true rfl) ?_
  rintro _ h1 ⟨rfl, hr1, ho1⟩
  refine w_eq (st' := [.int (nI (if t.length < 60 then 1 else 0))]) rfl ?_
  refine w_if_eq (tgt := 22) d_CP_type_15 rfl (fun c15 => ?_) (fun c15 => ?_)
  · have c15 : ¬ t.length < 60 := fun z => by rw [if_pos z] at c15; exact absurd c15 (by decide)
    refine w_iconst (v := nI 0) d_CP_type_22 (by decide) ?_
    rw [← hEN]
    refine w_zret d_CP_type_23 rfl (by first | exact Or.inl rfl | exact Or.inr rfl) ?_
    first
    | rw [decide_eq_true c15, if_pos c15]; rw [if_pos c15] at hr1; exact ⟨rfl, ⟨_, _, _, _, hq0.text hr1 ho1⟩, ho1.wide (by omega) (by omega)⟩
    | rw [decide_eq_false c15, if_neg c15]; rw [if_neg c15] at hr1; exact ⟨rfl, ⟨_, _, _, _, hq0.text hr1 ho1⟩, ho1.wide (by omega) (by omega)⟩
  · have c15 : t.length < 60 := Decidable.byContradiction fun z => c15 (by rw [if_neg z]; rfl)
    refine w_iconst (v := nI 1) d_CP_type_18 (by decide) ?_
    refine w_goto (tgt := 23) d_CP_type_19 rfl ?_
    rw [← hEN]
    refine w_zret d_CP_type_23 rfl (by first | exact Or.inl rfl | exact Or.inr rfl) ?_
    first
    | rw [decide_eq_true c15, if_pos c15]; rw [if_pos c15] at hr1; exact ⟨rfl, ⟨_, _, _, _, hq0.text hr1 ho1⟩, ho1.wide (by omega) (by omega)⟩
    | rw [decide_eq_false c15, if_neg c15]; rw [if_neg c15] at hr1; exact ⟨rfl, ⟨_, _, _, _, hq0.text hr1 ho1⟩, ho1.wide (by omega) (by omega)⟩
set_option maxHeartbeats 4000000 in
set_option maxRecDepth 100000 in
theorem m_CP_typeB {h : wH} {t : List Nat} {G : gG} {sp : Nat} {Es Ss : List Nat} {pr : Nat → Nat} (hq : hCQ h t G sp Es Ss pr) {x : Int32} (hx : ¬ (0 ≤ x ∧ x < nI 1114112)) : PM X M_CP_type 1 0 0 [.ref 0, .int (x)] h (fun z h' => z = some (.int (bI false)) ∧ h' = h) := by
  have hq0 := hq; obtain ⟨hp, htx, ⟨f, har, hfr⟩, hrg, hss, ⟨A0, A1, hal⟩, ⟨o0, hwr⟩, hrd, p1, p2, p3, p4⟩ := hq
  refine PM.at (pl := [some (.ref 0), some (.int (x))]) rfl rfl (by simp [wle, wen]) ?_
  generalize hEN : wEm X 0 0 _ = EN
  refine w_iload_n d_CP_type_0 rfl ?_
  refine w_callS (as := [.int (x)]) (st := []) d_CP_type_1 yM_CP_isCodePoint l_CP_44 sM_CP_isCodePoint rfl rfl (m_CP_isCodePoint) (by decide) (by decide) (by decide) (by decide) (Nat.le_of_ble_eq_true rfl) ?_
  rintro _ h9_1 ⟨rfl, e9_1⟩
  rw [e9_1]
  refine w_eq (st' := [.int (bI (decide (0 ≤ x ∧ x < nI 1114112)))]) rfl ?_
  refine w_topi (y := nI 0) (congrArg bI (decide_eq_false hx)) ?_
  refine w_if_eq (tgt := 22) d_CP_type_4 rfl (fun _ => ?_) (fun z => absurd (by decide) z)
  refine w_iconst (v := nI 0) d_CP_type_22 (by decide) ?_
  rw [← hEN]
  refine w_zret d_CP_type_23 rfl (by first | exact Or.inl rfl | exact Or.inr rfl) ?_
  exact ⟨rfl, rfl⟩
set_option maxHeartbeats 4000000 in
set_option maxRecDepth 100000 in
theorem m_CP_wipe {h : wH} {t : List Nat} {G : gG} {sp : Nat} {Es Ss : List Nat} {pr : Nat → Nat} (hq : hCQ h t G sp Es Ss pr) : PM X M_CP_wipe 1 0 0 [.ref 0] h (fun z h' => z = none ∧ hCP h' [] G ∧ wOff h h' 0 57) := by
  have hq0 := hq; obtain ⟨hp, htx, ⟨f, har, hfr⟩, hrg, hss, ⟨A0, A1, hal⟩, ⟨o0, hwr⟩, hrd, p1, p2, p3, p4⟩ := hq
  obtain ⟨tf, tp, ta, t60, thf⟩ := id htx
  refine PM.at (pl := [some (.ref 0)]) rfl rfl (by simp [wle, wen]) ?_
  generalize hEN : wEm X 0 0 _ = EN
  refine w_aload_n d_CP_wipe_0 rfl rfl ?_
  refine w_get d_CP_wipe_1 f_CP_10 hp rfl ?_
  refine w_callV (as := []) (st := []) d_CP_wipe_4 yM_CR_clear l_CP_51 vM_CR_clear tp rfl rfl rfl rfl (m_CR_clear htx) (by decide) (by decide) (by decide) (by decide) (Nat.le_of_ble_eq_true rfl) ?_
  rintro _ h1 ⟨rfl, hr1, ho1⟩
  refine w_eq (st' := []) rfl ?_
  rw [← hEN]
  refine w_vret d_CP_wipe_7 rfl ?_
  exact ⟨rfl, ⟨_, _, _, _, hq0.text hr1 ho1⟩, ho1.wide (by omega) (by omega)⟩
set_option maxHeartbeats 4000000 in
set_option maxRecDepth 100000 in
theorem m_CP_length {h : wH} {t : List Nat} {G : gG} {sp : Nat} {Es Ss : List Nat} {pr : Nat → Nat} (hq : hCQ h t G sp Es Ss pr) : PM X M_CP_length 0 0 0 [.ref 0] h (fun z h' => z = some (.int (nI t.length)) ∧ h' = h) := by
  have hq0 := hq; obtain ⟨hp, htx, ⟨f, har, hfr⟩, hrg, hss, ⟨A0, A1, hal⟩, ⟨o0, hwr⟩, hrd, p1, p2, p3, p4⟩ := hq
  obtain ⟨tf, tp, ta, t60, thf⟩ := id htx
  refine PM.at (pl := [some (.ref 0)]) rfl rfl (by simp [wle, wen]) ?_
  generalize hEN : wEm X 0 0 _ = EN
  refine w_aload_n d_CP_length_0 rfl rfl ?_
  refine w_get d_CP_length_1 f_CP_10 hp rfl ?_
  refine w_get d_CP_length_4 f_CP_54 tp rfl ?_
  rw [← hEN]
  refine w_iret d_CP_length_7 rfl ?_
  exact ⟨rfl, rfl⟩
set_option maxHeartbeats 4000000 in
set_option maxRecDepth 100000 in
theorem m_CP_at {h : wH} {t : List Nat} {G : gG} {sp : Nat} {Es Ss : List Nat} {pr : Nat → Nat} (hq : hCQ h t G sp Es Ss pr) {k : Int32} : PM X M_CP_at 1 0 0 [.ref 0, .int (k)] h (fun z h' => z = some (.int (if k < 0 then -1 else match t[(k).toNatClampNeg]? with | some x => nI x | none => -1)) ∧ h' = h) := by
  have hq0 := hq; obtain ⟨hp, htx, ⟨f, har, hfr⟩, hrg, hss, ⟨A0, A1, hal⟩, ⟨o0, hwr⟩, hrd, p1, p2, p3, p4⟩ := hq
  obtain ⟨tf, tp, ta, t60, thf⟩ := id htx
  refine PM.at (pl := [some (.ref 0), some (.int (k))]) rfl rfl (by simp [wle, wen]) ?_
  generalize hEN : wEm X 0 0 _ = EN
  refine w_aload_n d_CP_at_0 rfl rfl ?_
  refine w_get d_CP_at_1 f_CP_10 hp rfl ?_
  refine w_iload_n d_CP_at_4 rfl ?_
  refine w_callV (as := [.int (k)]) (st := []) d_CP_at_5 yM_CR_codeAt l_CP_58 vM_CR_codeAt tp rfl rfl rfl rfl (m_CR_codeAt htx) (by decide) (by decide) (by decide) (by decide) (Nat.le_of_ble_eq_true rfl) ?_
  rintro _ h9_1 ⟨rfl, e9_1⟩
  rw [e9_1]
  refine w_eq (st' := [.int ((if k < 0 then -1 else match t[(k).toNatClampNeg]? with | some x => nI x | none => -1))]) rfl ?_
  rw [← hEN]
  refine w_iret d_CP_at_8 rfl ?_
  exact ⟨rfl, rfl⟩
set_option maxHeartbeats 4000000 in
set_option maxRecDepth 100000 in
theorem m_CP_printG {h : wH} {t : List Nat} {G : gG} {sp : Nat} {Es Ss : List Nat} {pr : Nat → Nat} (hq : hCQ h t G sp Es Ss pr) (hg : gOk t G) {r : Nat} (hr : r < 3) : PM X M_CP_print 6 0 0 [.ref 0, .int (nI r)] h (fun z h' => z = some (.int (if (pT (G r).1 (G r).2).length ≤ 60 then nI (pT (G r).1 (G r).2).length else -1)) ∧ hCP h' (if (pT (G r).1 (G r).2).length ≤ 60 then pT (G r).1 (G r).2 else t) G ∧ wOff h h' 0 57) := by
  have hq0 := hq; obtain ⟨hp, htx, ⟨f, har, hfr⟩, hrg, hss, ⟨A0, A1, hal⟩, ⟨o0, hwr⟩, hrd, p1, p2, p3, p4⟩ := hq
  obtain ⟨tf, tp, ta, t60, thf⟩ := id htx
  have rm := hrg r hr
  obtain ⟨gf, gk, gp, ga, gb, gl1, gl2, ghf, ghk⟩ := id rm
  have q1 := P2_in (p1 r hr)
  have q2 := P2_in p2
  have rok := hg.2 r hr
  have e31 : ∀ y ∈ (G r).1, y < 2 ^ 31 := fun y hy => by have := rok.1.2 y hy; omega
  have i1 := P2_in (p1 r hr)
  obtain ⟨fl0, hwr1⟩ := hwr.1
  refine PM.at (pl := [some (.ref 0), some (.int (nI r)), none]) rfl rfl (by simp [wle, wen]) ?_
  generalize hEN : wEm X 0 0 _ = EN
  refine w_aload_n d_CP_print_0 rfl rfl ?_
  refine w_iload_n d_CP_print_1 rfl ?_
  refine w_callV (as := [.int (nI r)]) (st := []) d_CP_print_2 yM_CP_registerAt l_CP_62 vM_CP_registerAt hp rfl rfl rfl rfl (m_CP_regG hq0 hr) (by decide) (by decide) (by decide) (by decide) (Nat.le_of_ble_eq_true rfl) ?_
  rintro _ h9_1 ⟨rfl, e9_1⟩
  rw [e9_1]
  refine w_eq (st' := [.ref (pr r)]) rfl ?_
  refine w_astore_n d_CP_print_5 (by decide) rfl ?_
  refine w_pl (pl' := [some (.ref 0), some (.int (nI r)), some (.ref (pr r))]) rfl ?_
  refine w_aload_n d_CP_print_6 rfl rfl ?_
  refine w_ifnull d_CP_print_7 ?_
  refine w_aload_n d_CP_print_10 rfl rfl ?_
  refine w_get d_CP_print_11 f_CP_33 hp rfl ?_
  refine w_aload_n d_CP_print_14 rfl rfl ?_
  refine w_callV (as := [.ref (pr r)]) (st := []) d_CP_print_15 yM_PW_writePattern l_CP_87 vM_PW_writePattern hwr1 rfl rfl rfl rfl (m_PW_writePattern hwr rm (by omega) rok.1 rok.2.2.2.1) (by decide) (by decide) (by decide) (by decide) (Nat.le_of_ble_eq_true rfl) ?_
  rintro _ h1 ⟨rfl, ⟨o1, hw1, hw2⟩, ho1⟩
  refine w_eq (st' := [.int (bI (decide ((pT (G r).1 (G r).2).length ≤ 60)))]) rfl ?_
  have hp1 := (ho1 0 (by omega)).trans hp
  have tp1 := (ho1 1 (by omega)).trans tp
  have hw3 := hw1.1
  refine w_if_ne (tgt := 23) d_CP_print_18 rfl (fun c18 => ?_) (fun c18 => ?_)
  · have c18 := of_decide_eq_true (bI_t c18)
    have hw2 := hw2 c18
    subst hw2
    refine w_aload_n d_CP_print_23 rfl rfl ?_
    refine w_get d_CP_print_24 f_CP_10 hp1 rfl ?_
    refine w_aload_n d_CP_print_27 rfl rfl ?_
    refine w_get d_CP_print_28 f_CP_33 hp1 rfl ?_
    refine w_get d_CP_print_31 f_CP_91 hw3 rfl ?_
    refine w_callV (as := [.ref (48 + 1)]) (st := []) d_CP_print_34 yM_CR_become l_CP_94 vM_CR_become tp1 rfl rfl rfl rfl (m_CR_become (htx.off ho1 (by omega)) hw1.2 (by omega)) (by decide) (by decide) (by decide) (by decide) (Nat.le_of_ble_eq_true rfl) ?_
    rintro _ h2 ⟨rfl, hr2, ho2⟩
    refine w_eq (st' := []) rfl ?_
    rw [List.take_of_length_le c18] at hr2
    have hp2 := (ho2 0 (by omega)).trans hp1
    have tp2 := hr2.choose_spec.1
    refine w_aload_n d_CP_print_37 rfl rfl ?_
    refine w_get d_CP_print_38 f_CP_10 hp2 rfl ?_
    refine w_get d_CP_print_41 f_CP_54 tp2 rfl ?_
    rw [← hEN]
    refine w_iret d_CP_print_44 rfl ?_
    rw [if_pos c18, if_pos c18]
    exact ⟨rfl, ⟨_, _, _, _, (hq0.writer hw1 ho1).text hr2 ho2⟩, (ho1.wide (by omega) (by omega)).tr (ho2.wide (by omega) (by omega))⟩
  · have c18 := of_decide_eq_false (bI_f c18)
    refine w_iconst (v := -1) d_CP_print_21 (by decide) ?_
    rw [← hEN]
    refine w_iret d_CP_print_22 rfl ?_
    rw [if_neg c18, if_neg c18]
    exact ⟨rfl, ⟨_, _, _, _, hq0.writer hw1 ho1⟩, ho1.wide (by omega) (by omega)⟩
set_option maxHeartbeats 4000000 in
set_option maxRecDepth 100000 in
theorem m_CP_printB {h : wH} {t : List Nat} {G : gG} {sp : Nat} {Es Ss : List Nat} {pr : Nat → Nat} (hq : hCQ h t G sp Es Ss pr) {x : Int32} (hx : ¬ (0 ≤ x ∧ x < nI 3)) : PM X M_CP_print 6 0 0 [.ref 0, .int (x)] h (fun z h' => z = some (.int (-1)) ∧ h' = h) := by
  have hq0 := hq; obtain ⟨hp, htx, ⟨f, har, hfr⟩, hrg, hss, ⟨A0, A1, hal⟩, ⟨o0, hwr⟩, hrd, p1, p2, p3, p4⟩ := hq
  refine PM.at (pl := [some (.ref 0), some (.int (x)), none]) rfl rfl (by simp [wle, wen]) ?_
  generalize hEN : wEm X 0 0 _ = EN
  refine w_aload_n d_CP_print_0 rfl rfl ?_
  refine w_iload_n d_CP_print_1 rfl ?_
  refine w_callV (as := [.int (x)]) (st := []) d_CP_print_2 yM_CP_registerAt l_CP_62 vM_CP_registerAt hp rfl rfl rfl rfl (m_CP_regB hq0 (x := x) hx) (by decide) (by decide) (by decide) (by decide) (Nat.le_of_ble_eq_true rfl) ?_
  rintro _ h9_1 ⟨rfl, e9_1⟩
  rw [e9_1]
  refine w_eq (st' := [.null]) rfl ?_
  refine w_astore_n d_CP_print_5 (by decide) rfl ?_
  refine w_pl (pl' := [some (.ref 0), some (.int (x)), some (.null)]) rfl ?_
  refine w_aload_n d_CP_print_6 rfl rfl ?_
  refine w_ifnullN (tgt := 21) d_CP_print_7 rfl ?_
  refine w_iconst (v := -1) d_CP_print_21 (by decide) ?_
  rw [← hEN]
  refine w_iret d_CP_print_22 rfl ?_
  exact ⟨rfl, rfl⟩
set_option maxHeartbeats 4000000 in
set_option maxRecDepth 100000 in
theorem m_CP_combineG {h : wH} {t : List Nat} {G : gG} {sp : Nat} {Es Ss : List Nat} {pr : Nat → Nat} (hq : hCQ h t G sp Es Ss pr) (hg : gOk t G) {r s how : Nat} (hr : r < 3) (hs : s < 3) (hh : how ≤ 3) : PM X M_CP_combine 3 0 0 [.ref 0, .int (nI r), .int (nI s), .int (nI how)] h (fun z h' => z = some (.int (bI (decide ((eCmb how (G r).1 (G s).1).length ≤ 200 ∧ (sCmb how (G r).2 (G s).2).length ≤ 8)))) ∧ hCP h' t (if (eCmb how (G r).1 (G s).1).length ≤ 200 ∧ (sCmb how (G r).2 (G s).2).length ≤ 8 then gUp G r (eCmb how (G r).1 (G s).1, sCmb how (G r).2 (G s).2) else G) ∧ wOff h h' 0 57) := by
  have hq0 := hq; obtain ⟨hp, htx, ⟨f, har, hfr⟩, hrg, hss, ⟨A0, A1, hal⟩, ⟨o0, hwr⟩, hrd, p1, p2, p3, p4⟩ := hq
  have rm := hrg r hr
  obtain ⟨gf, gk, gp, ga, gb, gl1, gl2, ghf, ghk⟩ := id rm
  have q1 := P2_in (p1 r hr)
  have q2 := P2_in p2
  have rok := hg.2 r hr
  have e31 : ∀ y ∈ (G r).1, y < 2 ^ 31 := fun y hy => by have := rok.1.2 y hy; omega
  have sok := hg.2 s hs
  obtain ⟨sf, sk, sp9, sa, sb, sl1, sl2, shf, shk⟩ := id (hrg s hs)
  obtain ⟨uf, uk, up, ua, ub, ul1, ul2, uhf, uhk⟩ := id hss
  refine PM.at (pl := [some (.ref 0), some (.int (nI r)), some (.int (nI s)), some (.int (nI how)), none, none]) rfl rfl (by simp [wle, wen]) ?_
  generalize hEN : wEm X 0 0 _ = EN
  refine w_aload_n d_CP_combine_0 rfl rfl ?_
  refine w_iload_n d_CP_combine_1 rfl ?_
  refine w_callV (as := [.int (nI r)]) (st := []) d_CP_combine_2 yM_CP_registerAt l_CP_62 vM_CP_registerAt hp rfl rfl rfl rfl (m_CP_regG hq0 hr) (by decide) (by decide) (by decide) (by decide) (Nat.le_of_ble_eq_true rfl) ?_
  rintro _ h9_1 ⟨rfl, e9_1⟩
  rw [e9_1]
  refine w_eq (st' := [.ref (pr r)]) rfl ?_
  refine w_astore d_CP_combine_5 (by decide) rfl ?_
  refine w_pl (pl' := [some (.ref 0), some (.int (nI r)), some (.int (nI s)), some (.int (nI how)), some (.ref (pr r)), none]) rfl ?_
  refine w_aload_n d_CP_combine_7 rfl rfl ?_
  refine w_iload_n d_CP_combine_8 rfl ?_
  refine w_callV (as := [.int (nI s)]) (st := []) d_CP_combine_9 yM_CP_registerAt l_CP_62 vM_CP_registerAt hp rfl rfl rfl rfl (m_CP_regG hq0 hs) (by decide) (by decide) (by decide) (by decide) (Nat.le_of_ble_eq_true rfl) ?_
  rintro _ h9_2 ⟨rfl, e9_2⟩
  rw [e9_2]
  refine w_eq (st' := [.ref (pr s)]) rfl ?_
  refine w_astore d_CP_combine_12 (by decide) rfl ?_
  refine w_pl (pl' := [some (.ref 0), some (.int (nI r)), some (.int (nI s)), some (.int (nI how)), some (.ref (pr r)), some (.ref (pr s))]) rfl ?_
  refine w_aload d_CP_combine_14 rfl rfl ?_
  refine w_ifnull d_CP_combine_16 ?_
  refine w_aload d_CP_combine_19 rfl rfl ?_
  refine w_ifnull d_CP_combine_21 ?_
  refine w_iload_n d_CP_combine_24 rfl ?_
  refine w_if_lt (tgt := 33) d_CP_combine_25 rfl (fun z => absurd z (nI_pos (by omega))) (fun _ => ?_)
  refine w_iload_n d_CP_combine_28 rfl ?_
  refine w_iconst (v := nI 3) d_CP_combine_29 (by decide) ?_
  refine w_icmp_le (tgt := 35) d_CP_combine_30 rfl (fun _ => ?_) (fun z => absurd (nI_le hh (by decide)) z)
  refine w_aload_n d_CP_combine_35 rfl rfl ?_
  refine w_get d_CP_combine_36 f_CP_41 hp rfl ?_
  refine w_aload d_CP_combine_39 rfl rfl ?_
  refine w_aload d_CP_combine_41 rfl rfl ?_
  refine w_iload_n d_CP_combine_43 rfl ?_
  refine w_callV (as := [.ref (pr r), .ref (pr s), .int (nI how)]) (st := []) d_CP_combine_44 yM_MS_becomeMerge l_CP_97 vM_MS_becomeMerge up rfl rfl rfl rfl (m_MS_becomeMerge hss rm (hrg s hs) (P2_dj p2 (p1 r hr) (Ne.symm (p3 r hr))) (P2_dj p2 (p1 s hs) (Ne.symm (p3 s hs))) rok.1 sok.1 (by omega) rok.2.2.1 sok.2.2.1 (fun y hy => sOk_lt (rok.2.2.2.1 y hy)) (fun y hy => sOk_lt (sok.2.2.2.1 y hy)) (by omega) hh) (by decide) (by decide) (by decide) (by decide) (Nat.le_of_ble_eq_true rfl) ?_
  rintro _ h1 ⟨rfl, hm1, ho1⟩
  refine w_eq (st' := []) rfl ?_
  have hq1 := hq0.spare hm1 ho1
  have hp1 := hq1.1
  refine w_aload_n d_CP_combine_47 rfl rfl ?_
  refine w_iload_n d_CP_combine_48 rfl ?_
  refine w_callV (as := [.int (nI r)]) (st := []) d_CP_combine_49 yM_CP_keepSpare l_CP_101 vM_CP_keepSpare hp1 rfl rfl rfl rfl (m_CP_keep hq1 hr) (by decide) (by decide) (by decide) (by decide) (Nat.le_of_ble_eq_true rfl) ?_
  rintro _ h2 ⟨rfl, hc2, ho2⟩
  refine w_eq (st' := [.int (bI (decide ((eCmb how (G r).1 (G s).1).length ≤ 200 ∧ (sCmb how (G r).2 (G s).2).length ≤ 8)))]) rfl ?_
  rw [← hEN]
  refine w_zret d_CP_combine_52 rfl (bI_01 _) ?_
  exact ⟨rfl, hc2, (ho1.wide (by omega) (by omega)).tr ho2⟩
set_option maxHeartbeats 4000000 in
set_option maxRecDepth 100000 in
theorem m_CP_combineB1 {h : wH} {t : List Nat} {G : gG} {sp : Nat} {Es Ss : List Nat} {pr : Nat → Nat} (hq : hCQ h t G sp Es Ss pr) {y z9 : Int32} {r : Nat} (hr : r < 3) (hx : ¬ (0 ≤ y ∧ y < nI 3)) : PM X M_CP_combine 3 0 0 [.ref 0, .int (nI r), .int (y), .int (z9)] h (fun z h' => z = some (.int (bI false)) ∧ h' = h) := by
  have hq0 := hq; obtain ⟨hp, htx, ⟨f, har, hfr⟩, hrg, hss, ⟨A0, A1, hal⟩, ⟨o0, hwr⟩, hrd, p1, p2, p3, p4⟩ := hq
  refine PM.at (pl := [some (.ref 0), some (.int (nI r)), some (.int (y)), some (.int (z9)), none, none]) rfl rfl (by simp [wle, wen]) ?_
  generalize hEN : wEm X 0 0 _ = EN
  refine w_aload_n d_CP_combine_0 rfl rfl ?_
  refine w_iload_n d_CP_combine_1 rfl ?_
  refine w_callV (as := [.int (nI r)]) (st := []) d_CP_combine_2 yM_CP_registerAt l_CP_62 vM_CP_registerAt hp rfl rfl rfl rfl (m_CP_regG hq0 hr) (by decide) (by decide) (by decide) (by decide) (Nat.le_of_ble_eq_true rfl) ?_
  rintro _ h9_1 ⟨rfl, e9_1⟩
  rw [e9_1]
  refine w_eq (st' := [.ref (pr r)]) rfl ?_
  refine w_astore d_CP_combine_5 (by decide) rfl ?_
  refine w_pl (pl' := [some (.ref 0), some (.int (nI r)), some (.int (y)), some (.int (z9)), some (.ref (pr r)), none]) rfl ?_
  refine w_aload_n d_CP_combine_7 rfl rfl ?_
  refine w_iload_n d_CP_combine_8 rfl ?_
  refine w_callV (as := [.int (y)]) (st := []) d_CP_combine_9 yM_CP_registerAt l_CP_62 vM_CP_registerAt hp rfl rfl rfl rfl (m_CP_regB hq0 (x := y) hx) (by decide) (by decide) (by decide) (by decide) (Nat.le_of_ble_eq_true rfl) ?_
  rintro _ h9_2 ⟨rfl, e9_2⟩
  rw [e9_2]
  refine w_eq (st' := [.null]) rfl ?_
  refine w_astore d_CP_combine_12 (by decide) rfl ?_
  refine w_pl (pl' := [some (.ref 0), some (.int (nI r)), some (.int (y)), some (.int (z9)), some (.ref (pr r)), some (.null)]) rfl ?_
  refine w_aload d_CP_combine_14 rfl rfl ?_
  refine w_ifnull d_CP_combine_16 ?_
  refine w_aload d_CP_combine_19 rfl rfl ?_
  refine w_ifnullN (tgt := 33) d_CP_combine_21 rfl ?_
  refine w_iconst (v := nI 0) d_CP_combine_33 (by decide) ?_
  rw [← hEN]
  refine w_zret d_CP_combine_34 rfl (by first | exact Or.inl rfl | exact Or.inr rfl) ?_
  exact ⟨rfl, rfl⟩
set_option maxHeartbeats 4000000 in
set_option maxRecDepth 100000 in
theorem m_CP_combineB0 {h : wH} {t : List Nat} {G : gG} {sp : Nat} {Es Ss : List Nat} {pr : Nat → Nat} (hq : hCQ h t G sp Es Ss pr) {x z9 : Int32} {s : Nat} (hr : s < 3) (hx : ¬ (0 ≤ x ∧ x < nI 3)) : PM X M_CP_combine 3 0 0 [.ref 0, .int (x), .int (nI s), .int (z9)] h (fun z h' => z = some (.int (bI false)) ∧ h' = h) := by
  have hq0 := hq; obtain ⟨hp, htx, ⟨f, har, hfr⟩, hrg, hss, ⟨A0, A1, hal⟩, ⟨o0, hwr⟩, hrd, p1, p2, p3, p4⟩ := hq
  refine PM.at (pl := [some (.ref 0), some (.int (x)), some (.int (nI s)), some (.int (z9)), none, none]) rfl rfl (by simp [wle, wen]) ?_
  generalize hEN : wEm X 0 0 _ = EN
  refine w_aload_n d_CP_combine_0 rfl rfl ?_
  refine w_iload_n d_CP_combine_1 rfl ?_
  refine w_callV (as := [.int (x)]) (st := []) d_CP_combine_2 yM_CP_registerAt l_CP_62 vM_CP_registerAt hp rfl rfl rfl rfl (m_CP_regB hq0 (x := x) hx) (by decide) (by decide) (by decide) (by decide) (Nat.le_of_ble_eq_true rfl) ?_
  rintro _ h9_1 ⟨rfl, e9_1⟩
  rw [e9_1]
  refine w_eq (st' := [.null]) rfl ?_
  refine w_astore d_CP_combine_5 (by decide) rfl ?_
  refine w_pl (pl' := [some (.ref 0), some (.int (x)), some (.int (nI s)), some (.int (z9)), some (.null), none]) rfl ?_
  refine w_aload_n d_CP_combine_7 rfl rfl ?_
  refine w_iload_n d_CP_combine_8 rfl ?_
  refine w_callV (as := [.int (nI s)]) (st := []) d_CP_combine_9 yM_CP_registerAt l_CP_62 vM_CP_registerAt hp rfl rfl rfl rfl (m_CP_regG hq0 hr) (by decide) (by decide) (by decide) (by decide) (Nat.le_of_ble_eq_true rfl) ?_
  rintro _ h9_2 ⟨rfl, e9_2⟩
  rw [e9_2]
  refine w_eq (st' := [.ref (pr s)]) rfl ?_
  refine w_astore d_CP_combine_12 (by decide) rfl ?_
  refine w_pl (pl' := [some (.ref 0), some (.int (x)), some (.int (nI s)), some (.int (z9)), some (.null), some (.ref (pr s))]) rfl ?_
  refine w_aload d_CP_combine_14 rfl rfl ?_
  refine w_ifnullN (tgt := 33) d_CP_combine_16 rfl ?_
  refine w_iconst (v := nI 0) d_CP_combine_33 (by decide) ?_
  rw [← hEN]
  refine w_zret d_CP_combine_34 rfl (by first | exact Or.inl rfl | exact Or.inr rfl) ?_
  exact ⟨rfl, rfl⟩
set_option maxHeartbeats 4000000 in
set_option maxRecDepth 100000 in
theorem m_CP_combineB2 {h : wH} {t : List Nat} {G : gG} {sp : Nat} {Es Ss : List Nat} {pr : Nat → Nat} (hq : hCQ h t G sp Es Ss pr) {x y z9 : Int32} (hx : ¬ (0 ≤ x ∧ x < nI 3)) (hy : ¬ (0 ≤ y ∧ y < nI 3)) : PM X M_CP_combine 3 0 0 [.ref 0, .int (x), .int (y), .int (z9)] h (fun z h' => z = some (.int (bI false)) ∧ h' = h) := by
  have hq0 := hq; obtain ⟨hp, htx, ⟨f, har, hfr⟩, hrg, hss, ⟨A0, A1, hal⟩, ⟨o0, hwr⟩, hrd, p1, p2, p3, p4⟩ := hq
  refine PM.at (pl := [some (.ref 0), some (.int (x)), some (.int (y)), some (.int (z9)), none, none]) rfl rfl (by simp [wle, wen]) ?_
  generalize hEN : wEm X 0 0 _ = EN
  refine w_aload_n d_CP_combine_0 rfl rfl ?_
  refine w_iload_n d_CP_combine_1 rfl ?_
  refine w_callV (as := [.int (x)]) (st := []) d_CP_combine_2 yM_CP_registerAt l_CP_62 vM_CP_registerAt hp rfl rfl rfl rfl (m_CP_regB hq0 (x := x) hx) (by decide) (by decide) (by decide) (by decide) (Nat.le_of_ble_eq_true rfl) ?_
  rintro _ h9_1 ⟨rfl, e9_1⟩
  rw [e9_1]
  refine w_eq (st' := [.null]) rfl ?_
  refine w_astore d_CP_combine_5 (by decide) rfl ?_
  refine w_pl (pl' := [some (.ref 0), some (.int (x)), some (.int (y)), some (.int (z9)), some (.null), none]) rfl ?_
  refine w_aload_n d_CP_combine_7 rfl rfl ?_
  refine w_iload_n d_CP_combine_8 rfl ?_
  refine w_callV (as := [.int (y)]) (st := []) d_CP_combine_9 yM_CP_registerAt l_CP_62 vM_CP_registerAt hp rfl rfl rfl rfl (m_CP_regB hq0 (x := y) hy) (by decide) (by decide) (by decide) (by decide) (Nat.le_of_ble_eq_true rfl) ?_
  rintro _ h9_2 ⟨rfl, e9_2⟩
  rw [e9_2]
  refine w_eq (st' := [.null]) rfl ?_
  refine w_astore d_CP_combine_12 (by decide) rfl ?_
  refine w_pl (pl' := [some (.ref 0), some (.int (x)), some (.int (y)), some (.int (z9)), some (.null), some (.null)]) rfl ?_
  refine w_aload d_CP_combine_14 rfl rfl ?_
  refine w_ifnullN (tgt := 33) d_CP_combine_16 rfl ?_
  refine w_iconst (v := nI 0) d_CP_combine_33 (by decide) ?_
  rw [← hEN]
  refine w_zret d_CP_combine_34 rfl (by first | exact Or.inl rfl | exact Or.inr rfl) ?_
  exact ⟨rfl, rfl⟩
set_option maxHeartbeats 4000000 in
set_option maxRecDepth 100000 in
theorem m_CP_combineB3 {h : wH} {t : List Nat} {G : gG} {sp : Nat} {Es Ss : List Nat} {pr : Nat → Nat} (hq : hCQ h t G sp Es Ss pr) {r s : Nat} {z9 : Int32} (hr : r < 3) (hs : s < 3) (hz : ¬ (0 ≤ z9 ∧ z9 ≤ nI 3)) : PM X M_CP_combine 3 0 0 [.ref 0, .int (nI r), .int (nI s), .int (z9)] h (fun z h' => z = some (.int (bI false)) ∧ h' = h) := by
  have hq0 := hq; obtain ⟨hp, htx, ⟨f, har, hfr⟩, hrg, hss, ⟨A0, A1, hal⟩, ⟨o0, hwr⟩, hrd, p1, p2, p3, p4⟩ := hq
  refine PM.at (pl := [some (.ref 0), some (.int (nI r)), some (.int (nI s)), some (.int (z9)), none, none]) rfl rfl (by simp [wle, wen]) ?_
  generalize hEN : wEm X 0 0 _ = EN
  refine w_aload_n d_CP_combine_0 rfl rfl ?_
  refine w_iload_n d_CP_combine_1 rfl ?_
  refine w_callV (as := [.int (nI r)]) (st := []) d_CP_combine_2 yM_CP_registerAt l_CP_62 vM_CP_registerAt hp rfl rfl rfl rfl (m_CP_regG hq0 hr) (by decide) (by decide) (by decide) (by decide) (Nat.le_of_ble_eq_true rfl) ?_
  rintro _ h9_1 ⟨rfl, e9_1⟩
  rw [e9_1]
  refine w_eq (st' := [.ref (pr r)]) rfl ?_
  refine w_astore d_CP_combine_5 (by decide) rfl ?_
  refine w_pl (pl' := [some (.ref 0), some (.int (nI r)), some (.int (nI s)), some (.int (z9)), some (.ref (pr r)), none]) rfl ?_
  refine w_aload_n d_CP_combine_7 rfl rfl ?_
  refine w_iload_n d_CP_combine_8 rfl ?_
  refine w_callV (as := [.int (nI s)]) (st := []) d_CP_combine_9 yM_CP_registerAt l_CP_62 vM_CP_registerAt hp rfl rfl rfl rfl (m_CP_regG hq0 hs) (by decide) (by decide) (by decide) (by decide) (Nat.le_of_ble_eq_true rfl) ?_
  rintro _ h9_2 ⟨rfl, e9_2⟩
  rw [e9_2]
  refine w_eq (st' := [.ref (pr s)]) rfl ?_
  refine w_astore d_CP_combine_12 (by decide) rfl ?_
  refine w_pl (pl' := [some (.ref 0), some (.int (nI r)), some (.int (nI s)), some (.int (z9)), some (.ref (pr r)), some (.ref (pr s))]) rfl ?_
  refine w_aload d_CP_combine_14 rfl rfl ?_
  refine w_ifnull d_CP_combine_16 ?_
  refine w_aload d_CP_combine_19 rfl rfl ?_
  refine w_ifnull d_CP_combine_21 ?_
  refine w_iload_n d_CP_combine_24 rfl ?_
  refine w_if_lt (tgt := 33) d_CP_combine_25 rfl (fun c25 => ?_) (fun c25 => ?_)
  · refine w_iconst (v := nI 0) d_CP_combine_33 (by decide) ?_
    rw [← hEN]
    refine w_zret d_CP_combine_34 rfl (by first | exact Or.inl rfl | exact Or.inr rfl) ?_
    exact ⟨rfl, rfl⟩
  · refine w_iload_n d_CP_combine_28 rfl ?_
    refine w_iconst (v := nI 3) d_CP_combine_29 (by decide) ?_
    refine w_icmp_le (tgt := 35) d_CP_combine_30 rfl (fun c30 => ?_) (fun c30 => ?_)
    · exact absurd ⟨Int32.not_lt.mp c25, c30⟩ hz
    · refine w_iconst (v := nI 0) d_CP_combine_33 (by decide) ?_
      rw [← hEN]
      refine w_zret d_CP_combine_34 rfl (by first | exact Or.inl rfl | exact Or.inr rfl) ?_
      exact ⟨rfl, rfl⟩
set_option maxHeartbeats 4000000 in
set_option maxRecDepth 100000 in
theorem m_CP_turnG {h : wH} {t : List Nat} {G : gG} {sp : Nat} {Es Ss : List Nat} {pr : Nat → Nat} (hq : hCQ h t G sp Es Ss pr) (hg : gOk t G) {r : Nat} (hr : r < 3) : PM X M_CP_turn 2 0 0 [.ref 0, .int (nI r)] h (fun z h' => z = some (.int (bI (decide ((G r).2 = [] ∧ (eCmb 3 (G r).1 [0, 1114112]).length ≤ 200)))) ∧ hCP h' t (if (G r).2 = [] ∧ (eCmb 3 (G r).1 [0, 1114112]).length ≤ 200 then gUp G r (eCmb 3 (G r).1 [0, 1114112], []) else G) ∧ wOff h h' 0 57) := by
  have hq0 := hq; obtain ⟨hp, htx, ⟨f, har, hfr⟩, hrg, hss, ⟨A0, A1, hal⟩, ⟨o0, hwr⟩, hrd, p1, p2, p3, p4⟩ := hq
  have rm := hrg r hr
  obtain ⟨gf, gk, gp, ga, gb, gl1, gl2, ghf, ghk⟩ := id rm
  have q1 := P2_in (p1 r hr)
  have q2 := P2_in p2
  have rok := hg.2 r hr
  have e31 : ∀ y ∈ (G r).1, y < 2 ^ 31 := fun y hy => by have := rok.1.2 y hy; omega
  obtain ⟨uf, uk, up, ua, ub, ul1, ul2, uhf, uhk⟩ := id hss
  refine PM.at (pl := [some (.ref 0), some (.int (nI r)), none]) rfl rfl (by simp [wle, wen]) ?_
  generalize hEN : wEm X 0 0 _ = EN
  refine w_aload_n d_CP_turn_0 rfl rfl ?_
  refine w_iload_n d_CP_turn_1 rfl ?_
  refine w_callV (as := [.int (nI r)]) (st := []) d_CP_turn_2 yM_CP_registerAt l_CP_62 vM_CP_registerAt hp rfl rfl rfl rfl (m_CP_regG hq0 hr) (by decide) (by decide) (by decide) (by decide) (Nat.le_of_ble_eq_true rfl) ?_
  rintro _ h9_1 ⟨rfl, e9_1⟩
  rw [e9_1]
  refine w_eq (st' := [.ref (pr r)]) rfl ?_
  refine w_astore_n d_CP_turn_5 (by decide) rfl ?_
  refine w_pl (pl' := [some (.ref 0), some (.int (nI r)), some (.ref (pr r))]) rfl ?_
  refine w_aload_n d_CP_turn_6 rfl rfl ?_
  refine w_ifnull d_CP_turn_7 ?_
  refine w_aload_n d_CP_turn_10 rfl rfl ?_
  refine w_get d_CP_turn_11 f_CP_104 gp rfl ?_
  refine w_if_le (tgt := 19) d_CP_turn_14 rfl (fun c14 => ?_) (fun c14 => ?_)
  · have c14 : (G r).2 = [] := List.length_eq_zero_iff.mp (Nat.le_zero.mp ((nI_leI (a := (G r).2.length) (b := 0) (by omega) (by decide)).mp c14))
    refine w_aload_n d_CP_turn_19 rfl rfl ?_
    refine w_get d_CP_turn_20 f_CP_41 hp rfl ?_
    refine w_aload_n d_CP_turn_23 rfl rfl ?_
    refine w_callV (as := [.ref (pr r)]) (st := []) d_CP_turn_24 yM_MS_becomeOthers l_CP_107 vM_MS_becomeOthers up rfl rfl rfl rfl (m_MS_becomeOthers hss rm (P2_dj p2 (p1 r hr) (Ne.symm (p3 r hr))) rok.1 (by omega)) (by decide) (by decide) (by decide) (by decide) (Nat.le_of_ble_eq_true rfl) ?_
    rintro _ h1 ⟨rfl, hm1, ho1⟩
    refine w_eq (st' := []) rfl ?_
    have hq1 := hq0.spare hm1 ho1
    have hp1 := hq1.1
    refine w_aload_n d_CP_turn_27 rfl rfl ?_
    refine w_iload_n d_CP_turn_28 rfl ?_
    refine w_callV (as := [.int (nI r)]) (st := []) d_CP_turn_29 yM_CP_keepSpare l_CP_101 vM_CP_keepSpare hp1 rfl rfl rfl rfl (m_CP_keep hq1 hr) (by decide) (by decide) (by decide) (by decide) (Nat.le_of_ble_eq_true rfl) ?_
    rintro _ h2 ⟨rfl, hc2, ho2⟩
    refine w_eq (st' := [.int (bI (decide ((eCmb 3 (G r).1 [0, 1114112]).length ≤ 200 ∧ ([] : List Nat).length ≤ 8)))]) rfl ?_
    rw [← hEN]
    refine w_zret d_CP_turn_32 rfl (bI_01 _) ?_
    have he : ((G r).2 = [] ∧ (eCmb 3 (G r).1 [0, 1114112]).length ≤ 200) ↔ ((eCmb 3 (G r).1 [0, 1114112]).length ≤ 200 ∧ ([] : List Nat).length ≤ 8) := ⟨fun z => ⟨z.2, by decide⟩, fun z => ⟨c14, z.1⟩⟩
    simp only [he]
    exact ⟨trivial, hc2, (ho1.wide (by omega) (by omega)).tr ho2⟩
  · have c14 : ¬ (G r).2 = [] := fun z => c14 (by rw [z]; decide)
    refine w_iconst (v := nI 0) d_CP_turn_17 (by decide) ?_
    rw [← hEN]
    refine w_zret d_CP_turn_18 rfl (by first | exact Or.inl rfl | exact Or.inr rfl) ?_
    rw [decide_eq_false (fun z => c14 z.1), if_neg (fun z => c14 z.1)]
    exact ⟨rfl, ⟨_, _, _, _, hq0⟩, wOff.rf⟩
set_option maxHeartbeats 4000000 in
set_option maxRecDepth 100000 in
theorem m_CP_turnB {h : wH} {t : List Nat} {G : gG} {sp : Nat} {Es Ss : List Nat} {pr : Nat → Nat} (hq : hCQ h t G sp Es Ss pr) {x : Int32} (hx : ¬ (0 ≤ x ∧ x < nI 3)) : PM X M_CP_turn 2 0 0 [.ref 0, .int (x)] h (fun z h' => z = some (.int (bI false)) ∧ h' = h) := by
  have hq0 := hq; obtain ⟨hp, htx, ⟨f, har, hfr⟩, hrg, hss, ⟨A0, A1, hal⟩, ⟨o0, hwr⟩, hrd, p1, p2, p3, p4⟩ := hq
  refine PM.at (pl := [some (.ref 0), some (.int (x)), none]) rfl rfl (by simp [wle, wen]) ?_
  generalize hEN : wEm X 0 0 _ = EN
  refine w_aload_n d_CP_turn_0 rfl rfl ?_
  refine w_iload_n d_CP_turn_1 rfl ?_
  refine w_callV (as := [.int (x)]) (st := []) d_CP_turn_2 yM_CP_registerAt l_CP_62 vM_CP_registerAt hp rfl rfl rfl rfl (m_CP_regB hq0 (x := x) hx) (by decide) (by decide) (by decide) (by decide) (Nat.le_of_ble_eq_true rfl) ?_
  rintro _ h9_1 ⟨rfl, e9_1⟩
  rw [e9_1]
  refine w_eq (st' := [.null]) rfl ?_
  refine w_astore_n d_CP_turn_5 (by decide) rfl ?_
  refine w_pl (pl' := [some (.ref 0), some (.int (x)), some (.null)]) rfl ?_
  refine w_aload_n d_CP_turn_6 rfl rfl ?_
  refine w_ifnullN (tgt := 17) d_CP_turn_7 rfl ?_
  refine w_iconst (v := nI 0) d_CP_turn_17 (by decide) ?_
  rw [← hEN]
  refine w_zret d_CP_turn_18 rfl (by first | exact Or.inl rfl | exact Or.inr rfl) ?_
  exact ⟨rfl, rfl⟩
set_option maxHeartbeats 4000000 in
set_option maxRecDepth 100000 in
theorem m_CP_closeG (hT : xTab X) {h : wH} {t : List Nat} {G : gG} {sp : Nat} {Es Ss : List Nat} {pr : Nat → Nat} (hq : hCQ h t G sp Es Ss pr) (hg : gOk t G) {r : Nat} (hr : r < 3) : PM X M_CP_close 3 0 0 [.ref 0, .int (nI r)] h (fun z h' => ∃ A, eOk A ∧ (∀ x, eMem A x = (casd x && alk (G r).1 x)) ∧ z = some (.int (if (eCmb 0 (G r).1 A).length ≤ 200 then nI (eSize (eCmb 0 (G r).1 A)) - nI (eSize (G r).1) else -1)) ∧ hCP h' t (if (eCmb 0 (G r).1 A).length ≤ 200 then gUp G r (eCmb 0 (G r).1 A, (G r).2) else G) ∧ wOff h h' 0 57) := by
  have hq0 := hq; obtain ⟨hp, htx, ⟨f, har, hfr⟩, hrg, hss, ⟨A0, A1, hal⟩, ⟨o0, hwr⟩, hrd, p1, p2, p3, p4⟩ := hq
  have rm := hrg r hr
  obtain ⟨gf, gk, gp, ga, gb, gl1, gl2, ghf, ghk⟩ := id rm
  have q1 := P2_in (p1 r hr)
  have q2 := P2_in p2
  have rok := hg.2 r hr
  have e31 : ∀ y ∈ (G r).1, y < 2 ^ 31 := fun y hy => by have := rok.1.2 y hy; omega
  obtain ⟨uf, uk, up, ua, ub, ul1, ul2, uhf, uhk⟩ := id hss
  refine PM.at (pl := [some (.ref 0), some (.int (nI r)), none, none]) rfl rfl (by simp [wle, wen]) ?_
  generalize hEN : wEm X 0 0 _ = EN
  refine w_aload_n d_CP_close_0 rfl rfl ?_
  refine w_iload_n d_CP_close_1 rfl ?_
  refine w_callV (as := [.int (nI r)]) (st := []) d_CP_close_2 yM_CP_registerAt l_CP_62 vM_CP_registerAt hp rfl rfl rfl rfl (m_CP_regG hq0 hr) (by decide) (by decide) (by decide) (by decide) (Nat.le_of_ble_eq_true rfl) ?_
  rintro _ h9_1 ⟨rfl, e9_1⟩
  rw [e9_1]
  refine w_eq (st' := [.ref (pr r)]) rfl ?_
  refine w_astore_n d_CP_close_5 (by decide) rfl ?_
  refine w_pl (pl' := [some (.ref 0), some (.int (nI r)), some (.ref (pr r)), none]) rfl ?_
  refine w_aload_n d_CP_close_6 rfl rfl ?_
  refine w_ifnonnull (tgt := 12) d_CP_close_7 rfl ?_
  refine w_aload_n d_CP_close_12 rfl rfl ?_
  refine w_aload_n d_CP_close_13 rfl rfl ?_
  refine w_get d_CP_close_14 f_CP_37 hp rfl ?_
  refine w_callS (as := [.ref (pr r), .ref 51]) (st := []) d_CP_close_17 yM_CA_collectAlikes l_CP_110 sM_CA_collectAlikes rfl rfl (m_CA_collect hT rm hal (by omega) rok.1.1 e31) (by decide) (by decide) (by decide) (by decide) (Nat.le_of_ble_eq_true rfl) ?_
  rintro _ h1 ⟨rfl, A, ha1, ho1, a1, a2, a3, a4⟩
  refine w_eq (st' := []) rfl ?_
  have hq1 := hq0.alike ha1 ho1
  have hp1 := hq1.1
  have hs1 := hq1.2.2.2.2.1
  have up1 := hs1.choose_spec.choose_spec.1
  have rm1 := hq1.2.2.2.1 r hr
  have aok : eOk A := ⟨a1, fun y hy => by have := a2 y hy; omega⟩
  refine w_aload_n d_CP_close_20 rfl rfl ?_
  refine w_get d_CP_close_21 f_CP_41 hp1 rfl ?_
  refine w_aload_n d_CP_close_24 rfl rfl ?_
  refine w_aload_n d_CP_close_25 rfl rfl ?_
  refine w_get d_CP_close_26 f_CP_37 hp1 rfl ?_
  refine w_iconst (v := nI 0) d_CP_close_29 (by decide) ?_
  refine w_callV (as := [.ref (pr r), .ref 51, .int (nI 0)]) (st := []) d_CP_close_30 yM_MS_becomeMerge l_CP_97 vM_MS_becomeMerge up1 rfl rfl rfl rfl (m_MS_becomeMerge hs1 rm1 ha1 (P2_dj p2 (p1 r hr) (Ne.symm (p3 r hr))) (by unfold P2 at p2; omega) rok.1 aok (by omega) rok.2.2.1 List.Pairwise.nil (fun y hy => sOk_lt (rok.2.2.2.1 y hy)) (fun y hy => by cases hy) (by simp only [List.length_nil]; omega) (how := 0) (by decide)) (by decide) (by decide) (by decide) (by decide) (Nat.le_of_ble_eq_true rfl) ?_
  rintro _ h2 ⟨rfl, hm2, ho2⟩
  refine w_eq (st' := []) rfl ?_
  have hq2 := hq1.spare hm2 ho2
  have hp2 := hq2.1
  have up2 := hm2.choose_spec.choose_spec.1
  have rm2 := hq2.2.2.2.1 r hr
  have gp2 := rm2.choose_spec.choose_spec.1
  rw [sCmb_nil rok.2.2.1] at hm2 hq2
  refine w_aload_n d_CP_close_33 rfl rfl ?_
  refine w_get d_CP_close_34 f_CP_41 hp2 rfl ?_
  refine w_callV (as := []) (st := []) d_CP_close_37 yM_MS_codeCount l_CP_116 vM_MS_codeCount up2 rfl rfl rfl rfl (m_MS_codeCount hm2 (eCmb_ok _ _ _).1) (by decide) (by decide) (by decide) (by decide) (Nat.le_of_ble_eq_true rfl) ?_
  rintro _ h9_2 ⟨rfl, e9_2⟩
  rw [e9_2]
  refine w_eq (st' := [.int (nI (eSize (eCmb 0 (G r).1 A)))]) rfl ?_
  refine w_aload_n d_CP_close_40 rfl rfl ?_
  refine w_callV (as := []) (st := [.int (nI (eSize (eCmb 0 (G r).1 A)))]) d_CP_close_41 yM_MS_codeCount l_CP_116 vM_MS_codeCount gp2 rfl rfl rfl rfl (m_MS_codeCount rm2 rok.1.1) (by decide) (by decide) (by decide) (by decide) (Nat.le_of_ble_eq_true rfl) ?_
  rintro _ h9_3 ⟨rfl, e9_3⟩
  rw [e9_3]
  refine w_eq (st' := [.int (nI (eSize (G r).1)), .int (nI (eSize (eCmb 0 (G r).1 A)))]) rfl ?_
  refine w_isub d_CP_close_44 ?_
  refine w_istore_n d_CP_close_45 (by decide) ?_
  refine w_pl (pl' := [some (.ref 0), some (.int (nI r)), some (.ref (pr r)), some (.int ((nI (eSize (eCmb 0 (G r).1 A)) - nI (eSize (G r).1))))]) rfl ?_
  refine w_aload_n d_CP_close_46 rfl rfl ?_
  refine w_iload_n d_CP_close_47 rfl ?_
  refine w_callV (as := [.int (nI r)]) (st := []) d_CP_close_48 yM_CP_keepSpare l_CP_101 vM_CP_keepSpare hp2 rfl rfl rfl rfl (m_CP_keep hq2 hr) (by decide) (by decide) (by decide) (by decide) (Nat.le_of_ble_eq_true rfl) ?_
  rintro _ h3 ⟨rfl, hc3, ho3⟩
  refine w_eq (st' := [.int (bI (decide ((eCmb 0 (G r).1 A).length ≤ 200 ∧ (G r).2.length ≤ 8)))]) rfl ?_
  have he : ((eCmb 0 (G r).1 A).length ≤ 200 ∧ (G r).2.length ≤ 8) ↔ (eCmb 0 (G r).1 A).length ≤ 200 := ⟨fun z => z.1, fun z => ⟨z, rok.2.2.2.2⟩⟩
  simp only [he] at hc3
  refine w_if_eq (tgt := 58) d_CP_close_51 rfl (fun c51 => ?_) (fun c51 => ?_)
  · have c51 := of_decide_eq_false (bI_f c51)
    rw [he] at c51
    refine w_iconst (v := -1) d_CP_close_58 (by decide) ?_
    rw [← hEN]
    refine w_iret d_CP_close_59 rfl ?_
    refine ⟨A, aok, a4, ?_, hc3, ((ho1.wide (by omega) (by omega)).tr (ho2.wide (by omega) (by omega))).tr ho3⟩
    first
    | rw [if_pos c51]
    | rw [if_neg c51]
  · have c51 := of_decide_eq_true (bI_t c51)
    rw [he] at c51
    refine w_iload_n d_CP_close_54 rfl ?_
    refine w_goto (tgt := 59) d_CP_close_55 rfl ?_
    rw [← hEN]
    refine w_iret d_CP_close_59 rfl ?_
    refine ⟨A, aok, a4, ?_, hc3, ((ho1.wide (by omega) (by omega)).tr (ho2.wide (by omega) (by omega))).tr ho3⟩
    first
    | rw [if_pos c51]
    | rw [if_neg c51]
set_option maxHeartbeats 4000000 in
set_option maxRecDepth 100000 in
theorem m_CP_closeB {h : wH} {t : List Nat} {G : gG} {sp : Nat} {Es Ss : List Nat} {pr : Nat → Nat} (hq : hCQ h t G sp Es Ss pr) {x : Int32} (hx : ¬ (0 ≤ x ∧ x < nI 3)) : PM X M_CP_close 3 0 0 [.ref 0, .int (x)] h (fun z h' => z = some (.int (-1)) ∧ h' = h) := by
  have hq0 := hq; obtain ⟨hp, htx, ⟨f, har, hfr⟩, hrg, hss, ⟨A0, A1, hal⟩, ⟨o0, hwr⟩, hrd, p1, p2, p3, p4⟩ := hq
  refine PM.at (pl := [some (.ref 0), some (.int (x)), none, none]) rfl rfl (by simp [wle, wen]) ?_
  generalize hEN : wEm X 0 0 _ = EN
  refine w_aload_n d_CP_close_0 rfl rfl ?_
  refine w_iload_n d_CP_close_1 rfl ?_
  refine w_callV (as := [.int (x)]) (st := []) d_CP_close_2 yM_CP_registerAt l_CP_62 vM_CP_registerAt hp rfl rfl rfl rfl (m_CP_regB hq0 (x := x) hx) (by decide) (by decide) (by decide) (by decide) (Nat.le_of_ble_eq_true rfl) ?_
  rintro _ h9_1 ⟨rfl, e9_1⟩
  rw [e9_1]
  refine w_eq (st' := [.null]) rfl ?_
  refine w_astore_n d_CP_close_5 (by decide) rfl ?_
  refine w_pl (pl' := [some (.ref 0), some (.int (x)), some (.null), none]) rfl ?_
  refine w_aload_n d_CP_close_6 rfl rfl ?_
  refine w_ifnonnullN d_CP_close_7 ?_
  refine w_iconst (v := -1) d_CP_close_10 (by decide) ?_
  rw [← hEN]
  refine w_iret d_CP_close_11 rfl ?_
  exact ⟨rfl, rfl⟩
set_option maxHeartbeats 4000000 in
set_option maxRecDepth 100000 in
theorem m_CP_containsG {h : wH} {t : List Nat} {G : gG} {sp : Nat} {Es Ss : List Nat} {pr : Nat → Nat} (hq : hCQ h t G sp Es Ss pr) (hg : gOk t G) {r c : Nat} (hr : r < 3) (hc : c < 1114112) : PM X M_CP_contains 1 0 0 [.ref 0, .int (nI r), .int (nI c)] h (fun z h' => z = some (.int (bI (eMem (G r).1 c))) ∧ h' = h) := by
  have hq0 := hq; obtain ⟨hp, htx, ⟨f, har, hfr⟩, hrg, hss, ⟨A0, A1, hal⟩, ⟨o0, hwr⟩, hrd, p1, p2, p3, p4⟩ := hq
  have rm := hrg r hr
  obtain ⟨gf, gk, gp, ga, gb, gl1, gl2, ghf, ghk⟩ := id rm
  have q1 := P2_in (p1 r hr)
  have q2 := P2_in p2
  have rok := hg.2 r hr
  have e31 : ∀ y ∈ (G r).1, y < 2 ^ 31 := fun y hy => by have := rok.1.2 y hy; omega
  refine PM.at (pl := [some (.ref 0), some (.int (nI r)), some (.int (nI c)), none]) rfl rfl (by simp [wle, wen]) ?_
  generalize hEN : wEm X 0 0 _ = EN
  refine w_aload_n d_CP_contains_0 rfl rfl ?_
  refine w_iload_n d_CP_contains_1 rfl ?_
  refine w_callV (as := [.int (nI r)]) (st := []) d_CP_contains_2 yM_CP_registerAt l_CP_62 vM_CP_registerAt hp rfl rfl rfl rfl (m_CP_regG hq0 hr) (by decide) (by decide) (by decide) (by decide) (Nat.le_of_ble_eq_true rfl) ?_
  rintro _ h9_1 ⟨rfl, e9_1⟩
  rw [e9_1]
  refine w_eq (st' := [.ref (pr r)]) rfl ?_
  refine w_astore_n d_CP_contains_5 (by decide) rfl ?_
  refine w_pl (pl' := [some (.ref 0), some (.int (nI r)), some (.int (nI c)), some (.ref (pr r))]) rfl ?_
  refine w_aload_n d_CP_contains_6 rfl rfl ?_
  refine w_ifnull d_CP_contains_7 ?_
  refine w_iload_n d_CP_contains_10 rfl ?_
  refine w_callS (as := [.int (nI c)]) (st := []) d_CP_contains_11 yM_CP_isCodePoint l_CP_44 sM_CP_isCodePoint rfl rfl (m_CP_isCodePoint) (by decide) (by decide) (by decide) (by decide) (Nat.le_of_ble_eq_true rfl) ?_
  rintro _ h9_2 ⟨rfl, e9_2⟩
  rw [e9_2]
  refine w_eq (st' := [.int (bI (decide (0 ≤ nI c ∧ nI c < nI 1114112)))]) rfl ?_
  refine w_topi (y := nI 1) (congrArg bI (decide_eq_true ⟨nI_pos' (by omega), nI_lt hc (by decide)⟩)) ?_
  refine w_if_eq (tgt := 29) d_CP_contains_14 rfl (fun z => absurd z (by decide)) (fun _ => ?_)
  refine w_aload_n d_CP_contains_17 rfl rfl ?_
  refine w_iload_n d_CP_contains_18 rfl ?_
  refine w_callV (as := [.int (nI c)]) (st := []) d_CP_contains_19 yM_MS_holdsCode l_CP_120 vM_MS_holdsCode gp rfl rfl rfl rfl (m_MS_holdsCode rm rok.1.1 e31 (by omega)) (by decide) (by decide) (by decide) (by decide) (Nat.le_of_ble_eq_true rfl) ?_
  rintro _ h9_3 ⟨rfl, e9_3⟩
  rw [e9_3]
  refine w_eq (st' := [.int (bI (eMem (G r).1 c))]) rfl ?_
  refine w_if_eq (tgt := 29) d_CP_contains_22 rfl (fun c22 => ?_) (fun c22 => ?_)
  · refine w_iconst (v := nI 0) d_CP_contains_29 (by decide) ?_
    rw [← hEN]
    refine w_zret d_CP_contains_30 rfl (by first | exact Or.inl rfl | exact Or.inr rfl) ?_
    first | (rw [bI_f c22]; exact ⟨rfl, rfl⟩) | (rw [bI_t c22]; exact ⟨rfl, rfl⟩)
  · refine w_iconst (v := nI 1) d_CP_contains_25 (by decide) ?_
    refine w_goto (tgt := 30) d_CP_contains_26 rfl ?_
    rw [← hEN]
    refine w_zret d_CP_contains_30 rfl (by first | exact Or.inl rfl | exact Or.inr rfl) ?_
    first | (rw [bI_f c22]; exact ⟨rfl, rfl⟩) | (rw [bI_t c22]; exact ⟨rfl, rfl⟩)
set_option maxHeartbeats 4000000 in
set_option maxRecDepth 100000 in
theorem m_CP_containsB {h : wH} {t : List Nat} {G : gG} {sp : Nat} {Es Ss : List Nat} {pr : Nat → Nat} (hq : hCQ h t G sp Es Ss pr) {x y : Int32} (hx : ¬ (0 ≤ x ∧ x < nI 3)) : PM X M_CP_contains 1 0 0 [.ref 0, .int (x), .int (y)] h (fun z h' => z = some (.int (bI false)) ∧ h' = h) := by
  have hq0 := hq; obtain ⟨hp, htx, ⟨f, har, hfr⟩, hrg, hss, ⟨A0, A1, hal⟩, ⟨o0, hwr⟩, hrd, p1, p2, p3, p4⟩ := hq
  refine PM.at (pl := [some (.ref 0), some (.int (x)), some (.int (y)), none]) rfl rfl (by simp [wle, wen]) ?_
  generalize hEN : wEm X 0 0 _ = EN
  refine w_aload_n d_CP_contains_0 rfl rfl ?_
  refine w_iload_n d_CP_contains_1 rfl ?_
  refine w_callV (as := [.int (x)]) (st := []) d_CP_contains_2 yM_CP_registerAt l_CP_62 vM_CP_registerAt hp rfl rfl rfl rfl (m_CP_regB hq0 (x := x) hx) (by decide) (by decide) (by decide) (by decide) (Nat.le_of_ble_eq_true rfl) ?_
  rintro _ h9_1 ⟨rfl, e9_1⟩
  rw [e9_1]
  refine w_eq (st' := [.null]) rfl ?_
  refine w_astore_n d_CP_contains_5 (by decide) rfl ?_
  refine w_pl (pl' := [some (.ref 0), some (.int (x)), some (.int (y)), some (.null)]) rfl ?_
  refine w_aload_n d_CP_contains_6 rfl rfl ?_
  refine w_ifnullN (tgt := 29) d_CP_contains_7 rfl ?_
  refine w_iconst (v := nI 0) d_CP_contains_29 (by decide) ?_
  rw [← hEN]
  refine w_zret d_CP_contains_30 rfl (by first | exact Or.inl rfl | exact Or.inr rfl) ?_
  exact ⟨rfl, rfl⟩
set_option maxHeartbeats 4000000 in
set_option maxRecDepth 100000 in
theorem m_CP_containsC {h : wH} {t : List Nat} {G : gG} {sp : Nat} {Es Ss : List Nat} {pr : Nat → Nat} (hq : hCQ h t G sp Es Ss pr) {r : Nat} {y : Int32} (hr : r < 3) (hx : ¬ (0 ≤ y ∧ y < nI 1114112)) : PM X M_CP_contains 1 0 0 [.ref 0, .int (nI r), .int (y)] h (fun z h' => z = some (.int (bI false)) ∧ h' = h) := by
  have hq0 := hq; obtain ⟨hp, htx, ⟨f, har, hfr⟩, hrg, hss, ⟨A0, A1, hal⟩, ⟨o0, hwr⟩, hrd, p1, p2, p3, p4⟩ := hq
  refine PM.at (pl := [some (.ref 0), some (.int (nI r)), some (.int (y)), none]) rfl rfl (by simp [wle, wen]) ?_
  generalize hEN : wEm X 0 0 _ = EN
  refine w_aload_n d_CP_contains_0 rfl rfl ?_
  refine w_iload_n d_CP_contains_1 rfl ?_
  refine w_callV (as := [.int (nI r)]) (st := []) d_CP_contains_2 yM_CP_registerAt l_CP_62 vM_CP_registerAt hp rfl rfl rfl rfl (m_CP_regG hq0 hr) (by decide) (by decide) (by decide) (by decide) (Nat.le_of_ble_eq_true rfl) ?_
  rintro _ h9_1 ⟨rfl, e9_1⟩
  rw [e9_1]
  refine w_eq (st' := [.ref (pr r)]) rfl ?_
  refine w_astore_n d_CP_contains_5 (by decide) rfl ?_
  refine w_pl (pl' := [some (.ref 0), some (.int (nI r)), some (.int (y)), some (.ref (pr r))]) rfl ?_
  refine w_aload_n d_CP_contains_6 rfl rfl ?_
  refine w_ifnull d_CP_contains_7 ?_
  refine w_iload_n d_CP_contains_10 rfl ?_
  refine w_callS (as := [.int (y)]) (st := []) d_CP_contains_11 yM_CP_isCodePoint l_CP_44 sM_CP_isCodePoint rfl rfl (m_CP_isCodePoint) (by decide) (by decide) (by decide) (by decide) (Nat.le_of_ble_eq_true rfl) ?_
  rintro _ h9_2 ⟨rfl, e9_2⟩
  rw [e9_2]
  refine w_eq (st' := [.int (bI (decide (0 ≤ y ∧ y < nI 1114112)))]) rfl ?_
  refine w_topi (y := nI 0) (congrArg bI (decide_eq_false hx)) ?_
  refine w_if_eq (tgt := 29) d_CP_contains_14 rfl (fun _ => ?_) (fun z => absurd (by decide) z)
  refine w_iconst (v := nI 0) d_CP_contains_29 (by decide) ?_
  rw [← hEN]
  refine w_zret d_CP_contains_30 rfl (by first | exact Or.inl rfl | exact Or.inr rfl) ?_
  exact ⟨rfl, rfl⟩
set_option maxHeartbeats 4000000 in
set_option maxRecDepth 100000 in
theorem m_CP_hasG {h : wH} {t : List Nat} {G : gG} {sp : Nat} {Es Ss : List Nat} {pr : Nat → Nat} (hq : hCQ h t G sp Es Ss pr) (hg : gOk t G) {r : Nat} (hr : r < 3) : PM X M_CP_has 2 0 0 [.ref 0, .int (nI r)] h (fun z h' => z = some (.int (bI (tM (G r).1 (G r).2 t 0 t.length))) ∧ h' = h) := by
  have hq0 := hq; obtain ⟨hp, htx, ⟨f, har, hfr⟩, hrg, hss, ⟨A0, A1, hal⟩, ⟨o0, hwr⟩, hrd, p1, p2, p3, p4⟩ := hq
  obtain ⟨tf, tp, ta, t60, thf⟩ := id htx
  have rm := hrg r hr
  obtain ⟨gf, gk, gp, ga, gb, gl1, gl2, ghf, ghk⟩ := id rm
  have q1 := P2_in (p1 r hr)
  have q2 := P2_in p2
  have rok := hg.2 r hr
  have e31 : ∀ y ∈ (G r).1, y < 2 ^ 31 := fun y hy => by have := rok.1.2 y hy; omega
  refine PM.at (pl := [some (.ref 0), some (.int (nI r)), none]) rfl rfl (by simp [wle, wen]) ?_
  generalize hEN : wEm X 0 0 _ = EN
  refine w_aload_n d_CP_has_0 rfl rfl ?_
  refine w_iload_n d_CP_has_1 rfl ?_
  refine w_callV (as := [.int (nI r)]) (st := []) d_CP_has_2 yM_CP_registerAt l_CP_62 vM_CP_registerAt hp rfl rfl rfl rfl (m_CP_regG hq0 hr) (by decide) (by decide) (by decide) (by decide) (Nat.le_of_ble_eq_true rfl) ?_
  rintro _ h9_1 ⟨rfl, e9_1⟩
  rw [e9_1]
  refine w_eq (st' := [.ref (pr r)]) rfl ?_
  refine w_astore_n d_CP_has_5 (by decide) rfl ?_
  refine w_pl (pl' := [some (.ref 0), some (.int (nI r)), some (.ref (pr r))]) rfl ?_
  refine w_aload_n d_CP_has_6 rfl rfl ?_
  refine w_ifnull d_CP_has_7 ?_
  refine w_aload_n d_CP_has_10 rfl rfl ?_
  refine w_aload_n d_CP_has_11 rfl rfl ?_
  refine w_iconst (v := nI 0) d_CP_has_12 (by decide) ?_
  refine w_aload_n d_CP_has_13 rfl rfl ?_
  refine w_get d_CP_has_14 f_CP_10 hp rfl ?_
  refine w_get d_CP_has_17 f_CP_54 tp rfl ?_
  refine w_callV (as := [.ref (pr r), .int (nI 0), .int (nI t.length)]) (st := []) d_CP_has_20 yM_CP_textIsMember l_CP_123 vM_CP_textIsMember hp rfl rfl rfl rfl (m_CP_tM hq0 rm rok.1.1 e31 rok.2.2.2.1 hg.1 (by decide) t60) (by decide) (by decide) (by decide) (by decide) (Nat.le_of_ble_eq_true rfl) ?_
  rintro _ h9_2 ⟨rfl, e9_2⟩
  rw [e9_2]
  refine w_eq (st' := [.int (bI (tM (G r).1 (G r).2 t 0 t.length))]) rfl ?_
  refine w_if_eq (tgt := 30) d_CP_has_23 rfl (fun c23 => ?_) (fun c23 => ?_)
  · refine w_iconst (v := nI 0) d_CP_has_30 (by decide) ?_
    rw [← hEN]
    refine w_zret d_CP_has_31 rfl (by first | exact Or.inl rfl | exact Or.inr rfl) ?_
    first | (rw [bI_f c23]; exact ⟨rfl, rfl⟩) | (rw [bI_t c23]; exact ⟨rfl, rfl⟩)
  · refine w_iconst (v := nI 1) d_CP_has_26 (by decide) ?_
    refine w_goto (tgt := 31) d_CP_has_27 rfl ?_
    rw [← hEN]
    refine w_zret d_CP_has_31 rfl (by first | exact Or.inl rfl | exact Or.inr rfl) ?_
    first | (rw [bI_f c23]; exact ⟨rfl, rfl⟩) | (rw [bI_t c23]; exact ⟨rfl, rfl⟩)
set_option maxHeartbeats 4000000 in
set_option maxRecDepth 100000 in
theorem m_CP_hasB {h : wH} {t : List Nat} {G : gG} {sp : Nat} {Es Ss : List Nat} {pr : Nat → Nat} (hq : hCQ h t G sp Es Ss pr) {x : Int32} (hx : ¬ (0 ≤ x ∧ x < nI 3)) : PM X M_CP_has 2 0 0 [.ref 0, .int (x)] h (fun z h' => z = some (.int (bI false)) ∧ h' = h) := by
  have hq0 := hq; obtain ⟨hp, htx, ⟨f, har, hfr⟩, hrg, hss, ⟨A0, A1, hal⟩, ⟨o0, hwr⟩, hrd, p1, p2, p3, p4⟩ := hq
  refine PM.at (pl := [some (.ref 0), some (.int (x)), none]) rfl rfl (by simp [wle, wen]) ?_
  generalize hEN : wEm X 0 0 _ = EN
  refine w_aload_n d_CP_has_0 rfl rfl ?_
  refine w_iload_n d_CP_has_1 rfl ?_
  refine w_callV (as := [.int (x)]) (st := []) d_CP_has_2 yM_CP_registerAt l_CP_62 vM_CP_registerAt hp rfl rfl rfl rfl (m_CP_regB hq0 (x := x) hx) (by decide) (by decide) (by decide) (by decide) (Nat.le_of_ble_eq_true rfl) ?_
  rintro _ h9_1 ⟨rfl, e9_1⟩
  rw [e9_1]
  refine w_eq (st' := [.null]) rfl ?_
  refine w_astore_n d_CP_has_5 (by decide) rfl ?_
  refine w_pl (pl' := [some (.ref 0), some (.int (x)), some (.null)]) rfl ?_
  refine w_aload_n d_CP_has_6 rfl rfl ?_
  refine w_ifnullN (tgt := 30) d_CP_has_7 rfl ?_
  refine w_iconst (v := nI 0) d_CP_has_30 (by decide) ?_
  rw [← hEN]
  refine w_zret d_CP_has_31 rfl (by first | exact Or.inl rfl | exact Or.inr rfl) ?_
  exact ⟨rfl, rfl⟩
set_option maxHeartbeats 4000000 in
set_option maxRecDepth 100000 in
theorem m_CP_includesG {h : wH} {t : List Nat} {G : gG} {sp : Nat} {Es Ss : List Nat} {pr : Nat → Nat} (hq : hCQ h t G sp Es Ss pr) (hg : gOk t G) {r s : Nat} (hr : r < 3) (hs : s < 3) : PM X M_CP_includes 3 0 0 [.ref 0, .int (nI r), .int (nI s)] h (fun z h' => z = some (.int (bI (decide (eCmb 2 (G s).1 (G r).1 = [] ∧ sCmb 2 (G s).2 (G r).2 = [])))) ∧ hCP h' t G ∧ wOff h h' 0 57) := by
  have hq0 := hq; obtain ⟨hp, htx, ⟨f, har, hfr⟩, hrg, hss, ⟨A0, A1, hal⟩, ⟨o0, hwr⟩, hrd, p1, p2, p3, p4⟩ := hq
  have rm := hrg r hr
  obtain ⟨gf, gk, gp, ga, gb, gl1, gl2, ghf, ghk⟩ := id rm
  have q1 := P2_in (p1 r hr)
  have q2 := P2_in p2
  have rok := hg.2 r hr
  have e31 : ∀ y ∈ (G r).1, y < 2 ^ 31 := fun y hy => by have := rok.1.2 y hy; omega
  have sok := hg.2 s hs
  obtain ⟨uf, uk, up, ua, ub, ul1, ul2, uhf, uhk⟩ := id hss
  refine PM.at (pl := [some (.ref 0), some (.int (nI r)), some (.int (nI s)), none, none]) rfl rfl (by simp [wle, wen]) ?_
  generalize hEN : wEm X 0 0 _ = EN
  refine w_aload_n d_CP_includes_0 rfl rfl ?_
  refine w_iload_n d_CP_includes_1 rfl ?_
  refine w_callV (as := [.int (nI r)]) (st := []) d_CP_includes_2 yM_CP_registerAt l_CP_62 vM_CP_registerAt hp rfl rfl rfl rfl (m_CP_regG hq0 hr) (by decide) (by decide) (by decide) (by decide) (Nat.le_of_ble_eq_true rfl) ?_
  rintro _ h9_1 ⟨rfl, e9_1⟩
  rw [e9_1]
  refine w_eq (st' := [.ref (pr r)]) rfl ?_
  refine w_astore_n d_CP_includes_5 (by decide) rfl ?_
  refine w_pl (pl' := [some (.ref 0), some (.int (nI r)), some (.int (nI s)), some (.ref (pr r)), none]) rfl ?_
  refine w_aload_n d_CP_includes_6 rfl rfl ?_
  refine w_iload_n d_CP_includes_7 rfl ?_
  refine w_callV (as := [.int (nI s)]) (st := []) d_CP_includes_8 yM_CP_registerAt l_CP_62 vM_CP_registerAt hp rfl rfl rfl rfl (m_CP_regG hq0 hs) (by decide) (by decide) (by decide) (by decide) (Nat.le_of_ble_eq_true rfl) ?_
  rintro _ h9_2 ⟨rfl, e9_2⟩
  rw [e9_2]
  refine w_eq (st' := [.ref (pr s)]) rfl ?_
  refine w_astore d_CP_includes_11 (by decide) rfl ?_
  refine w_pl (pl' := [some (.ref 0), some (.int (nI r)), some (.int (nI s)), some (.ref (pr r)), some (.ref (pr s))]) rfl ?_
  refine w_aload_n d_CP_includes_13 rfl rfl ?_
  refine w_ifnull d_CP_includes_14 ?_
  refine w_aload d_CP_includes_17 rfl rfl ?_
  refine w_ifnonnull (tgt := 24) d_CP_includes_19 rfl ?_
  refine w_aload_n d_CP_includes_24 rfl rfl ?_
  refine w_get d_CP_includes_25 f_CP_41 hp rfl ?_
  refine w_aload d_CP_includes_28 rfl rfl ?_
  refine w_aload_n d_CP_includes_30 rfl rfl ?_
  refine w_iconst (v := nI 2) d_CP_includes_31 (by decide) ?_
  refine w_callV (as := [.ref (pr s), .ref (pr r), .int (nI 2)]) (st := []) d_CP_includes_32 yM_MS_becomeMerge l_CP_97 vM_MS_becomeMerge up rfl rfl rfl rfl (m_MS_becomeMerge hss (hrg s hs) rm (P2_dj p2 (p1 s hs) (Ne.symm (p3 s hs))) (P2_dj p2 (p1 r hr) (Ne.symm (p3 r hr))) sok.1 rok.1 (by omega) sok.2.2.1 rok.2.2.1 (fun y hy => sOk_lt (sok.2.2.2.1 y hy)) (fun y hy => sOk_lt (rok.2.2.2.1 y hy)) (by omega) (how := 2) (by decide)) (by decide) (by decide) (by decide) (by decide) (Nat.le_of_ble_eq_true rfl) ?_
  rintro _ h1 ⟨rfl, hm1, ho1⟩
  refine w_eq (st' := []) rfl ?_
  have hq1 := hq0.spare hm1 ho1
  have hp1 := hq1.1
  obtain ⟨vf, vk, vp, va, vb, vl1, vl2, vhf, vhk⟩ := id hm1
  refine w_aload_n d_CP_includes_35 rfl rfl ?_
  refine w_get d_CP_includes_36 f_CP_41 hp1 rfl ?_
  refine w_get d_CP_includes_39 f_CP_127 vp rfl ?_
  refine w_if_ne (tgt := 59) d_CP_includes_42 rfl (fun c42 => ?_) (fun c42 => ?_)
  · have c42 : ¬ eCmb 2 (G s).1 (G r).1 = [] := fun z => by rw [z] at c42; exact c42 rfl
    refine w_iconst (v := nI 0) d_CP_includes_59 (by decide) ?_
    rw [← hEN]
    refine w_zret d_CP_includes_60 rfl (by first | exact Or.inl rfl | exact Or.inr rfl) ?_
    refine ⟨?_, ⟨_, _, _, _, hq1⟩, ho1.wide (by omega) (by omega)⟩
    first
    | rw [decide_eq_true ⟨c42, c52⟩]; rfl
    | rw [decide_eq_false (fun z => c42 z.1)]; rfl
    | rw [decide_eq_false (fun z => c52 z.2)]; rfl
  · have c42 : eCmb 2 (G s).1 (G r).1 = [] := List.length_eq_zero_iff.mp ((nI_eq (a := (eCmb 2 (G s).1 (G r).1).length) (b := 0) (by omega) (by decide)).mp c42)
    refine w_aload_n d_CP_includes_45 rfl rfl ?_
    refine w_get d_CP_includes_46 f_CP_41 hp1 rfl ?_
    refine w_get d_CP_includes_49 f_CP_104 vp rfl ?_
    refine w_if_ne (tgt := 59) d_CP_includes_52 rfl (fun c52 => ?_) (fun c52 => ?_)
    · have c52 : ¬ sCmb 2 (G s).2 (G r).2 = [] := fun z => by rw [z] at c52; exact c52 rfl
      refine w_iconst (v := nI 0) d_CP_includes_59 (by decide) ?_
      rw [← hEN]
      refine w_zret d_CP_includes_60 rfl (by first | exact Or.inl rfl | exact Or.inr rfl) ?_
      refine ⟨?_, ⟨_, _, _, _, hq1⟩, ho1.wide (by omega) (by omega)⟩
      first
      | rw [decide_eq_true ⟨c42, c52⟩]; rfl
      | rw [decide_eq_false (fun z => c42 z.1)]; rfl
      | rw [decide_eq_false (fun z => c52 z.2)]; rfl
    · have c52 : sCmb 2 (G s).2 (G r).2 = [] := List.length_eq_zero_iff.mp ((nI_eq (a := (sCmb 2 (G s).2 (G r).2).length) (b := 0) (by omega) (by decide)).mp c52)
      refine w_iconst (v := nI 1) d_CP_includes_55 (by decide) ?_
      refine w_goto (tgt := 60) d_CP_includes_56 rfl ?_
      rw [← hEN]
      refine w_zret d_CP_includes_60 rfl (by first | exact Or.inl rfl | exact Or.inr rfl) ?_
      refine ⟨?_, ⟨_, _, _, _, hq1⟩, ho1.wide (by omega) (by omega)⟩
      first
      | rw [decide_eq_true ⟨c42, c52⟩]; rfl
      | rw [decide_eq_false (fun z => c42 z.1)]; rfl
      | rw [decide_eq_false (fun z => c52 z.2)]; rfl
set_option maxHeartbeats 4000000 in
set_option maxRecDepth 100000 in
theorem m_CP_includesB1 {h : wH} {t : List Nat} {G : gG} {sp : Nat} {Es Ss : List Nat} {pr : Nat → Nat} (hq : hCQ h t G sp Es Ss pr) {y : Int32} {r : Nat} (hr : r < 3) (hx : ¬ (0 ≤ y ∧ y < nI 3)) : PM X M_CP_includes 3 0 0 [.ref 0, .int (nI r), .int (y)] h (fun z h' => z = some (.int (bI false)) ∧ h' = h) := by
  have hq0 := hq; obtain ⟨hp, htx, ⟨f, har, hfr⟩, hrg, hss, ⟨A0, A1, hal⟩, ⟨o0, hwr⟩, hrd, p1, p2, p3, p4⟩ := hq
  refine PM.at (pl := [some (.ref 0), some (.int (nI r)), some (.int (y)), none, none]) rfl rfl (by simp [wle, wen]) ?_
  generalize hEN : wEm X 0 0 _ = EN
  refine w_aload_n d_CP_includes_0 rfl rfl ?_
  refine w_iload_n d_CP_includes_1 rfl ?_
  refine w_callV (as := [.int (nI r)]) (st := []) d_CP_includes_2 yM_CP_registerAt l_CP_62 vM_CP_registerAt hp rfl rfl rfl rfl (m_CP_regG hq0 hr) (by decide) (by decide) (by decide) (by decide) (Nat.le_of_ble_eq_true rfl) ?_
  rintro _ h9_1 ⟨rfl, e9_1⟩
  rw [e9_1]
  refine w_eq (st' := [.ref (pr r)]) rfl ?_
  refine w_astore_n d_CP_includes_5 (by decide) rfl ?_
  refine w_pl (pl' := [some (.ref 0), some (.int (nI r)), some (.int (y)), some (.ref (pr r)), none]) rfl ?_
  refine w_aload_n d_CP_includes_6 rfl rfl ?_
  refine w_iload_n d_CP_includes_7 rfl ?_
  refine w_callV (as := [.int (y)]) (st := []) d_CP_includes_8 yM_CP_registerAt l_CP_62 vM_CP_registerAt hp rfl rfl rfl rfl (m_CP_regB hq0 (x := y) hx) (by decide) (by decide) (by decide) (by decide) (Nat.le_of_ble_eq_true rfl) ?_
  rintro _ h9_2 ⟨rfl, e9_2⟩
  rw [e9_2]
  refine w_eq (st' := [.null]) rfl ?_
  refine w_astore d_CP_includes_11 (by decide) rfl ?_
  refine w_pl (pl' := [some (.ref 0), some (.int (nI r)), some (.int (y)), some (.ref (pr r)), some (.null)]) rfl ?_
  refine w_aload_n d_CP_includes_13 rfl rfl ?_
  refine w_ifnull d_CP_includes_14 ?_
  refine w_aload d_CP_includes_17 rfl rfl ?_
  refine w_ifnonnullN d_CP_includes_19 ?_
  refine w_iconst (v := nI 0) d_CP_includes_22 (by decide) ?_
  rw [← hEN]
  refine w_zret d_CP_includes_23 rfl (by first | exact Or.inl rfl | exact Or.inr rfl) ?_
  exact ⟨rfl, rfl⟩
set_option maxHeartbeats 4000000 in
set_option maxRecDepth 100000 in
theorem m_CP_includesB0 {h : wH} {t : List Nat} {G : gG} {sp : Nat} {Es Ss : List Nat} {pr : Nat → Nat} (hq : hCQ h t G sp Es Ss pr) {x : Int32} {s : Nat} (hr : s < 3) (hx : ¬ (0 ≤ x ∧ x < nI 3)) : PM X M_CP_includes 3 0 0 [.ref 0, .int (x), .int (nI s)] h (fun z h' => z = some (.int (bI false)) ∧ h' = h) := by
  have hq0 := hq; obtain ⟨hp, htx, ⟨f, har, hfr⟩, hrg, hss, ⟨A0, A1, hal⟩, ⟨o0, hwr⟩, hrd, p1, p2, p3, p4⟩ := hq
  refine PM.at (pl := [some (.ref 0), some (.int (x)), some (.int (nI s)), none, none]) rfl rfl (by simp [wle, wen]) ?_
  generalize hEN : wEm X 0 0 _ = EN
  refine w_aload_n d_CP_includes_0 rfl rfl ?_
  refine w_iload_n d_CP_includes_1 rfl ?_
  refine w_callV (as := [.int (x)]) (st := []) d_CP_includes_2 yM_CP_registerAt l_CP_62 vM_CP_registerAt hp rfl rfl rfl rfl (m_CP_regB hq0 (x := x) hx) (by decide) (by decide) (by decide) (by decide) (Nat.le_of_ble_eq_true rfl) ?_
  rintro _ h9_1 ⟨rfl, e9_1⟩
  rw [e9_1]
  refine w_eq (st' := [.null]) rfl ?_
  refine w_astore_n d_CP_includes_5 (by decide) rfl ?_
  refine w_pl (pl' := [some (.ref 0), some (.int (x)), some (.int (nI s)), some (.null), none]) rfl ?_
  refine w_aload_n d_CP_includes_6 rfl rfl ?_
  refine w_iload_n d_CP_includes_7 rfl ?_
  refine w_callV (as := [.int (nI s)]) (st := []) d_CP_includes_8 yM_CP_registerAt l_CP_62 vM_CP_registerAt hp rfl rfl rfl rfl (m_CP_regG hq0 hr) (by decide) (by decide) (by decide) (by decide) (Nat.le_of_ble_eq_true rfl) ?_
  rintro _ h9_2 ⟨rfl, e9_2⟩
  rw [e9_2]
  refine w_eq (st' := [.ref (pr s)]) rfl ?_
  refine w_astore d_CP_includes_11 (by decide) rfl ?_
  refine w_pl (pl' := [some (.ref 0), some (.int (x)), some (.int (nI s)), some (.null), some (.ref (pr s))]) rfl ?_
  refine w_aload_n d_CP_includes_13 rfl rfl ?_
  refine w_ifnullN (tgt := 22) d_CP_includes_14 rfl ?_
  refine w_iconst (v := nI 0) d_CP_includes_22 (by decide) ?_
  rw [← hEN]
  refine w_zret d_CP_includes_23 rfl (by first | exact Or.inl rfl | exact Or.inr rfl) ?_
  exact ⟨rfl, rfl⟩
set_option maxHeartbeats 4000000 in
set_option maxRecDepth 100000 in
theorem m_CP_includesB2 {h : wH} {t : List Nat} {G : gG} {sp : Nat} {Es Ss : List Nat} {pr : Nat → Nat} (hq : hCQ h t G sp Es Ss pr) {x y : Int32} (hx : ¬ (0 ≤ x ∧ x < nI 3)) (hy : ¬ (0 ≤ y ∧ y < nI 3)) : PM X M_CP_includes 3 0 0 [.ref 0, .int (x), .int (y)] h (fun z h' => z = some (.int (bI false)) ∧ h' = h) := by
  have hq0 := hq; obtain ⟨hp, htx, ⟨f, har, hfr⟩, hrg, hss, ⟨A0, A1, hal⟩, ⟨o0, hwr⟩, hrd, p1, p2, p3, p4⟩ := hq
  refine PM.at (pl := [some (.ref 0), some (.int (x)), some (.int (y)), none, none]) rfl rfl (by simp [wle, wen]) ?_
  generalize hEN : wEm X 0 0 _ = EN
  refine w_aload_n d_CP_includes_0 rfl rfl ?_
  refine w_iload_n d_CP_includes_1 rfl ?_
  refine w_callV (as := [.int (x)]) (st := []) d_CP_includes_2 yM_CP_registerAt l_CP_62 vM_CP_registerAt hp rfl rfl rfl rfl (m_CP_regB hq0 (x := x) hx) (by decide) (by decide) (by decide) (by decide) (Nat.le_of_ble_eq_true rfl) ?_
  rintro _ h9_1 ⟨rfl, e9_1⟩
  rw [e9_1]
  refine w_eq (st' := [.null]) rfl ?_
  refine w_astore_n d_CP_includes_5 (by decide) rfl ?_
  refine w_pl (pl' := [some (.ref 0), some (.int (x)), some (.int (y)), some (.null), none]) rfl ?_
  refine w_aload_n d_CP_includes_6 rfl rfl ?_
  refine w_iload_n d_CP_includes_7 rfl ?_
  refine w_callV (as := [.int (y)]) (st := []) d_CP_includes_8 yM_CP_registerAt l_CP_62 vM_CP_registerAt hp rfl rfl rfl rfl (m_CP_regB hq0 (x := y) hy) (by decide) (by decide) (by decide) (by decide) (Nat.le_of_ble_eq_true rfl) ?_
  rintro _ h9_2 ⟨rfl, e9_2⟩
  rw [e9_2]
  refine w_eq (st' := [.null]) rfl ?_
  refine w_astore d_CP_includes_11 (by decide) rfl ?_
  refine w_pl (pl' := [some (.ref 0), some (.int (x)), some (.int (y)), some (.null), some (.null)]) rfl ?_
  refine w_aload_n d_CP_includes_13 rfl rfl ?_
  refine w_ifnullN (tgt := 22) d_CP_includes_14 rfl ?_
  refine w_iconst (v := nI 0) d_CP_includes_22 (by decide) ?_
  rw [← hEN]
  refine w_zret d_CP_includes_23 rfl (by first | exact Or.inl rfl | exact Or.inr rfl) ?_
  exact ⟨rfl, rfl⟩
set_option maxHeartbeats 4000000 in
set_option maxRecDepth 100000 in
theorem m_CP_sizeG {h : wH} {t : List Nat} {G : gG} {sp : Nat} {Es Ss : List Nat} {pr : Nat → Nat} (hq : hCQ h t G sp Es Ss pr) (hg : gOk t G) {r : Nat} (hr : r < 3) : PM X M_CP_size 1 0 0 [.ref 0, .int (nI r)] h (fun z h' => z = some (.int (nI (eSize (G r).1))) ∧ h' = h) := by
  have hq0 := hq; obtain ⟨hp, htx, ⟨f, har, hfr⟩, hrg, hss, ⟨A0, A1, hal⟩, ⟨o0, hwr⟩, hrd, p1, p2, p3, p4⟩ := hq
  have rm := hrg r hr
  obtain ⟨gf, gk, gp, ga, gb, gl1, gl2, ghf, ghk⟩ := id rm
  have q1 := P2_in (p1 r hr)
  have q2 := P2_in p2
  have rok := hg.2 r hr
  have e31 : ∀ y ∈ (G r).1, y < 2 ^ 31 := fun y hy => by have := rok.1.2 y hy; omega
  refine PM.at (pl := [some (.ref 0), some (.int (nI r)), none]) rfl rfl (by simp [wle, wen]) ?_
  generalize hEN : wEm X 0 0 _ = EN
  refine w_aload_n d_CP_size_0 rfl rfl ?_
  refine w_iload_n d_CP_size_1 rfl ?_
  refine w_callV (as := [.int (nI r)]) (st := []) d_CP_size_2 yM_CP_registerAt l_CP_62 vM_CP_registerAt hp rfl rfl rfl rfl (m_CP_regG hq0 hr) (by decide) (by decide) (by decide) (by decide) (Nat.le_of_ble_eq_true rfl) ?_
  rintro _ h9_1 ⟨rfl, e9_1⟩
  rw [e9_1]
  refine w_eq (st' := [.ref (pr r)]) rfl ?_
  refine w_astore_n d_CP_size_5 (by decide) rfl ?_
  refine w_pl (pl' := [some (.ref 0), some (.int (nI r)), some (.ref (pr r))]) rfl ?_
  refine w_aload_n d_CP_size_6 rfl rfl ?_
  refine w_ifnonnull (tgt := 14) d_CP_size_7 rfl ?_
  refine w_aload_n d_CP_size_14 rfl rfl ?_
  refine w_callV (as := []) (st := []) d_CP_size_15 yM_MS_codeCount l_CP_116 vM_MS_codeCount gp rfl rfl rfl rfl (m_MS_codeCount rm rok.1.1) (by decide) (by decide) (by decide) (by decide) (Nat.le_of_ble_eq_true rfl) ?_
  rintro _ h9_2 ⟨rfl, e9_2⟩
  rw [e9_2]
  refine w_eq (st' := [.int (nI (eSize (G r).1))]) rfl ?_
  rw [← hEN]
  refine w_iret d_CP_size_18 rfl ?_
  exact ⟨rfl, rfl⟩
set_option maxHeartbeats 4000000 in
set_option maxRecDepth 100000 in
theorem m_CP_sizeB {h : wH} {t : List Nat} {G : gG} {sp : Nat} {Es Ss : List Nat} {pr : Nat → Nat} (hq : hCQ h t G sp Es Ss pr) {x : Int32} (hx : ¬ (0 ≤ x ∧ x < nI 3)) : PM X M_CP_size 1 0 0 [.ref 0, .int (x)] h (fun z h' => z = some (.int (-1)) ∧ h' = h) := by
  have hq0 := hq; obtain ⟨hp, htx, ⟨f, har, hfr⟩, hrg, hss, ⟨A0, A1, hal⟩, ⟨o0, hwr⟩, hrd, p1, p2, p3, p4⟩ := hq
  refine PM.at (pl := [some (.ref 0), some (.int (x)), none]) rfl rfl (by simp [wle, wen]) ?_
  generalize hEN : wEm X 0 0 _ = EN
  refine w_aload_n d_CP_size_0 rfl rfl ?_
  refine w_iload_n d_CP_size_1 rfl ?_
  refine w_callV (as := [.int (x)]) (st := []) d_CP_size_2 yM_CP_registerAt l_CP_62 vM_CP_registerAt hp rfl rfl rfl rfl (m_CP_regB hq0 (x := x) hx) (by decide) (by decide) (by decide) (by decide) (Nat.le_of_ble_eq_true rfl) ?_
  rintro _ h9_1 ⟨rfl, e9_1⟩
  rw [e9_1]
  refine w_eq (st' := [.null]) rfl ?_
  refine w_astore_n d_CP_size_5 (by decide) rfl ?_
  refine w_pl (pl' := [some (.ref 0), some (.int (x)), some (.null)]) rfl ?_
  refine w_aload_n d_CP_size_6 rfl rfl ?_
  refine w_ifnonnullN d_CP_size_7 ?_
  refine w_iconst (v := -1) d_CP_size_10 (by decide) ?_
  refine w_goto (tgt := 18) d_CP_size_11 rfl ?_
  rw [← hEN]
  refine w_iret d_CP_size_18 rfl ?_
  exact ⟨rfl, rfl⟩
set_option maxHeartbeats 4000000 in
set_option maxRecDepth 100000 in
theorem m_CP_stringsG {h : wH} {t : List Nat} {G : gG} {sp : Nat} {Es Ss : List Nat} {pr : Nat → Nat} (hq : hCQ h t G sp Es Ss pr) (hg : gOk t G) {r : Nat} (hr : r < 3) : PM X M_CP_strings 1 0 0 [.ref 0, .int (nI r)] h (fun z h' => z = some (.int (nI (G r).2.length)) ∧ h' = h) := by
  have hq0 := hq; obtain ⟨hp, htx, ⟨f, har, hfr⟩, hrg, hss, ⟨A0, A1, hal⟩, ⟨o0, hwr⟩, hrd, p1, p2, p3, p4⟩ := hq
  have rm := hrg r hr
  obtain ⟨gf, gk, gp, ga, gb, gl1, gl2, ghf, ghk⟩ := id rm
  have q1 := P2_in (p1 r hr)
  have q2 := P2_in p2
  have rok := hg.2 r hr
  have e31 : ∀ y ∈ (G r).1, y < 2 ^ 31 := fun y hy => by have := rok.1.2 y hy; omega
  refine PM.at (pl := [some (.ref 0), some (.int (nI r)), none]) rfl rfl (by simp [wle, wen]) ?_
  generalize hEN : wEm X 0 0 _ = EN
  refine w_aload_n d_CP_strings_0 rfl rfl ?_
  refine w_iload_n d_CP_strings_1 rfl ?_
  refine w_callV (as := [.int (nI r)]) (st := []) d_CP_strings_2 yM_CP_registerAt l_CP_62 vM_CP_registerAt hp rfl rfl rfl rfl (m_CP_regG hq0 hr) (by decide) (by decide) (by decide) (by decide) (Nat.le_of_ble_eq_true rfl) ?_
  rintro _ h9_1 ⟨rfl, e9_1⟩
  rw [e9_1]
  refine w_eq (st' := [.ref (pr r)]) rfl ?_
  refine w_astore_n d_CP_strings_5 (by decide) rfl ?_
  refine w_pl (pl' := [some (.ref 0), some (.int (nI r)), some (.ref (pr r))]) rfl ?_
  refine w_aload_n d_CP_strings_6 rfl rfl ?_
  refine w_ifnonnull (tgt := 14) d_CP_strings_7 rfl ?_
  refine w_aload_n d_CP_strings_14 rfl rfl ?_
  refine w_get d_CP_strings_15 f_CP_104 gp rfl ?_
  rw [← hEN]
  refine w_iret d_CP_strings_18 rfl ?_
  exact ⟨rfl, rfl⟩
set_option maxHeartbeats 4000000 in
set_option maxRecDepth 100000 in
theorem m_CP_stringsB {h : wH} {t : List Nat} {G : gG} {sp : Nat} {Es Ss : List Nat} {pr : Nat → Nat} (hq : hCQ h t G sp Es Ss pr) {x : Int32} (hx : ¬ (0 ≤ x ∧ x < nI 3)) : PM X M_CP_strings 1 0 0 [.ref 0, .int (x)] h (fun z h' => z = some (.int (-1)) ∧ h' = h) := by
  have hq0 := hq; obtain ⟨hp, htx, ⟨f, har, hfr⟩, hrg, hss, ⟨A0, A1, hal⟩, ⟨o0, hwr⟩, hrd, p1, p2, p3, p4⟩ := hq
  refine PM.at (pl := [some (.ref 0), some (.int (x)), none]) rfl rfl (by simp [wle, wen]) ?_
  generalize hEN : wEm X 0 0 _ = EN
  refine w_aload_n d_CP_strings_0 rfl rfl ?_
  refine w_iload_n d_CP_strings_1 rfl ?_
  refine w_callV (as := [.int (x)]) (st := []) d_CP_strings_2 yM_CP_registerAt l_CP_62 vM_CP_registerAt hp rfl rfl rfl rfl (m_CP_regB hq0 (x := x) hx) (by decide) (by decide) (by decide) (by decide) (Nat.le_of_ble_eq_true rfl) ?_
  rintro _ h9_1 ⟨rfl, e9_1⟩
  rw [e9_1]
  refine w_eq (st' := [.null]) rfl ?_
  refine w_astore_n d_CP_strings_5 (by decide) rfl ?_
  refine w_pl (pl' := [some (.ref 0), some (.int (x)), some (.null)]) rfl ?_
  refine w_aload_n d_CP_strings_6 rfl rfl ?_
  refine w_ifnonnullN d_CP_strings_7 ?_
  refine w_iconst (v := -1) d_CP_strings_10 (by decide) ?_
  refine w_goto (tgt := 18) d_CP_strings_11 rfl ?_
  rw [← hEN]
  refine w_iret d_CP_strings_18 rfl ?_
  exact ⟨rfl, rfl⟩
set_option maxHeartbeats 4000000 in
set_option maxRecDepth 100000 in
theorem m_CP_edgeG {h : wH} {t : List Nat} {G : gG} {sp : Nat} {Es Ss : List Nat} {pr : Nat → Nat} (hq : hCQ h t G sp Es Ss pr) (hg : gOk t G) {r : Nat} {k : Int32} (hr : r < 3) : PM X M_CP_edge 1 0 0 [.ref 0, .int (nI r), .int (k)] h (fun z h' => z = some (.int (if k < 0 then -1 else match (G r).1[(k).toNatClampNeg]? with | some x => nI x | none => -1)) ∧ h' = h) := by
  have hq0 := hq; obtain ⟨hp, htx, ⟨f, har, hfr⟩, hrg, hss, ⟨A0, A1, hal⟩, ⟨o0, hwr⟩, hrd, p1, p2, p3, p4⟩ := hq
  have rm := hrg r hr
  obtain ⟨gf, gk, gp, ga, gb, gl1, gl2, ghf, ghk⟩ := id rm
  have q1 := P2_in (p1 r hr)
  have q2 := P2_in p2
  have rok := hg.2 r hr
  have e31 : ∀ y ∈ (G r).1, y < 2 ^ 31 := fun y hy => by have := rok.1.2 y hy; omega
  refine PM.at (pl := [some (.ref 0), some (.int (nI r)), some (.int (k)), none]) rfl rfl (by simp [wle, wen]) ?_
  generalize hEN : wEm X 0 0 _ = EN
  refine w_aload_n d_CP_edge_0 rfl rfl ?_
  refine w_iload_n d_CP_edge_1 rfl ?_
  refine w_callV (as := [.int (nI r)]) (st := []) d_CP_edge_2 yM_CP_registerAt l_CP_62 vM_CP_registerAt hp rfl rfl rfl rfl (m_CP_regG hq0 hr) (by decide) (by decide) (by decide) (by decide) (Nat.le_of_ble_eq_true rfl) ?_
  rintro _ h9_1 ⟨rfl, e9_1⟩
  rw [e9_1]
  refine w_eq (st' := [.ref (pr r)]) rfl ?_
  refine w_astore_n d_CP_edge_5 (by decide) rfl ?_
  refine w_pl (pl' := [some (.ref 0), some (.int (nI r)), some (.int (k)), some (.ref (pr r))]) rfl ?_
  refine w_aload_n d_CP_edge_6 rfl rfl ?_
  refine w_ifnull d_CP_edge_7 ?_
  refine w_iload_n d_CP_edge_10 rfl ?_
  refine w_if_lt (tgt := 22) d_CP_edge_11 rfl (fun c11 => ?_) (fun c11 => ?_)
  · refine w_iconst (v := -1) d_CP_edge_22 (by decide) ?_
    rw [← hEN]
    refine w_iret d_CP_edge_23 rfl ?_
    first
    | rw [if_pos c11]; exact ⟨rfl, rfl⟩
    | rw [if_neg c11, nI_clamp hj, List.getElem?_eq_none (by omega)]; exact ⟨rfl, rfl⟩
  · obtain ⟨j, hj, rfl⟩ := nI_of c11
    refine w_iload_n d_CP_edge_14 rfl ?_
    refine w_aload_n d_CP_edge_15 rfl rfl ?_
    refine w_get d_CP_edge_16 f_CP_127 gp rfl ?_
    refine w_icmp_lt (tgt := 24) d_CP_edge_19 rfl (fun c19 => ?_) (fun c19 => ?_)
    · have c19 : j < (G r).1.length := (nI_ltI hj (by omega)).mp c19
      obtain ⟨y, hy⟩ := t_at c19
      refine w_aload_n d_CP_edge_24 rfl rfl ?_
      refine w_get d_CP_edge_25 f_CP_130 gp rfl ?_
      refine w_iload_n d_CP_edge_28 rfl ?_
      refine w_iald d_CP_edge_29 ga (vp_in_nI (by omega) (by omega)) ?_
      refine w_topi (y := nI y) (by rw [nI_clamp hj]; exact ghf _ _ hy) ?_
      rw [← hEN]
      refine w_iret d_CP_edge_30 rfl ?_
      rw [if_neg c11, nI_clamp hj, hy]
      exact ⟨rfl, rfl⟩
    · have c19 : ¬ j < (G r).1.length := fun z => c19 ((nI_ltI hj (by omega)).mpr z)
      refine w_iconst (v := -1) d_CP_edge_22 (by decide) ?_
      rw [← hEN]
      refine w_iret d_CP_edge_23 rfl ?_
      first
      | rw [if_pos c11]; exact ⟨rfl, rfl⟩
      | rw [if_neg c11, nI_clamp hj, List.getElem?_eq_none (by omega)]; exact ⟨rfl, rfl⟩
set_option maxHeartbeats 4000000 in
set_option maxRecDepth 100000 in
theorem m_CP_edgeB {h : wH} {t : List Nat} {G : gG} {sp : Nat} {Es Ss : List Nat} {pr : Nat → Nat} (hq : hCQ h t G sp Es Ss pr) {x y : Int32} (hx : ¬ (0 ≤ x ∧ x < nI 3)) : PM X M_CP_edge 1 0 0 [.ref 0, .int (x), .int (y)] h (fun z h' => z = some (.int (-1)) ∧ h' = h) := by
  have hq0 := hq; obtain ⟨hp, htx, ⟨f, har, hfr⟩, hrg, hss, ⟨A0, A1, hal⟩, ⟨o0, hwr⟩, hrd, p1, p2, p3, p4⟩ := hq
  refine PM.at (pl := [some (.ref 0), some (.int (x)), some (.int (y)), none]) rfl rfl (by simp [wle, wen]) ?_
  generalize hEN : wEm X 0 0 _ = EN
  refine w_aload_n d_CP_edge_0 rfl rfl ?_
  refine w_iload_n d_CP_edge_1 rfl ?_
  refine w_callV (as := [.int (x)]) (st := []) d_CP_edge_2 yM_CP_registerAt l_CP_62 vM_CP_registerAt hp rfl rfl rfl rfl (m_CP_regB hq0 (x := x) hx) (by decide) (by decide) (by decide) (by decide) (Nat.le_of_ble_eq_true rfl) ?_
  rintro _ h9_1 ⟨rfl, e9_1⟩
  rw [e9_1]
  refine w_eq (st' := [.null]) rfl ?_
  refine w_astore_n d_CP_edge_5 (by decide) rfl ?_
  refine w_pl (pl' := [some (.ref 0), some (.int (x)), some (.int (y)), some (.null)]) rfl ?_
  refine w_aload_n d_CP_edge_6 rfl rfl ?_
  refine w_ifnullN (tgt := 22) d_CP_edge_7 rfl ?_
  refine w_iconst (v := -1) d_CP_edge_22 (by decide) ?_
  rw [← hEN]
  refine w_iret d_CP_edge_23 rfl ?_
  exact ⟨rfl, rfl⟩
set_option maxHeartbeats 4000000 in
set_option maxRecDepth 100000 in
theorem m_CP_nthG {h : wH} {t : List Nat} {G : gG} {sp : Nat} {Es Ss : List Nat} {pr : Nat → Nat} (hq : hCQ h t G sp Es Ss pr) (hg : gOk t G) {r i : Nat} (hr : r < 3) (hi : i < 2 ^ 31) : PM X M_CP_nth 1 0 0 [.ref 0, .int (nI r), .int (nI i)] h (fun z h' => z = some (.int (match eNth (G r).1 i with | some x => nI x | none => -1)) ∧ h' = h) := by
  have hq0 := hq; obtain ⟨hp, htx, ⟨f, har, hfr⟩, hrg, hss, ⟨A0, A1, hal⟩, ⟨o0, hwr⟩, hrd, p1, p2, p3, p4⟩ := hq
  have rm := hrg r hr
  obtain ⟨gf, gk, gp, ga, gb, gl1, gl2, ghf, ghk⟩ := id rm
  have q1 := P2_in (p1 r hr)
  have q2 := P2_in p2
  have rok := hg.2 r hr
  have e31 : ∀ y ∈ (G r).1, y < 2 ^ 31 := fun y hy => by have := rok.1.2 y hy; omega
  refine PM.at (pl := [some (.ref 0), some (.int (nI r)), some (.int (nI i)), none]) rfl rfl (by simp [wle, wen]) ?_
  generalize hEN : wEm X 0 0 _ = EN
  refine w_aload_n d_CP_nth_0 rfl rfl ?_
  refine w_iload_n d_CP_nth_1 rfl ?_
  refine w_callV (as := [.int (nI r)]) (st := []) d_CP_nth_2 yM_CP_registerAt l_CP_62 vM_CP_registerAt hp rfl rfl rfl rfl (m_CP_regG hq0 hr) (by decide) (by decide) (by decide) (by decide) (Nat.le_of_ble_eq_true rfl) ?_
  rintro _ h9_1 ⟨rfl, e9_1⟩
  rw [e9_1]
  refine w_eq (st' := [.ref (pr r)]) rfl ?_
  refine w_astore_n d_CP_nth_5 (by decide) rfl ?_
  refine w_pl (pl' := [some (.ref 0), some (.int (nI r)), some (.int (nI i)), some (.ref (pr r))]) rfl ?_
  refine w_aload_n d_CP_nth_6 rfl rfl ?_
  refine w_ifnull d_CP_nth_7 ?_
  refine w_iload_n d_CP_nth_10 rfl ?_
  refine w_if_ge (tgt := 18) d_CP_nth_11 rfl (fun _ => ?_) (fun z => absurd (nI_pos' hi) z)
  refine w_aload_n d_CP_nth_18 rfl rfl ?_
  refine w_iload_n d_CP_nth_19 rfl ?_
  refine w_callV (as := [.int (nI i)]) (st := []) d_CP_nth_20 yM_MS_codeOfRank l_CP_134 vM_MS_codeOfRank gp rfl rfl rfl rfl (m_MS_codeOfRank rm rok.1.1 e31 hi) (by decide) (by decide) (by decide) (by decide) (Nat.le_of_ble_eq_true rfl) ?_
  rintro _ h9_2 ⟨rfl, e9_2⟩
  rw [e9_2]
  refine w_eq (st' := [.int (match eNth (G r).1 i with | some x => nI x | none => -1)]) rfl ?_
  rw [← hEN]
  refine w_iret d_CP_nth_23 rfl ?_
  exact ⟨rfl, rfl⟩
set_option maxHeartbeats 4000000 in
set_option maxRecDepth 100000 in
theorem m_CP_nthC {h : wH} {t : List Nat} {G : gG} {sp : Nat} {Es Ss : List Nat} {pr : Nat → Nat} (hq : hCQ h t G sp Es Ss pr) {r : Nat} {y : Int32} (hr : r < 3) (hy : y < 0) : PM X M_CP_nth 1 0 0 [.ref 0, .int (nI r), .int (y)] h (fun z h' => z = some (.int (-1)) ∧ h' = h) := by
  have hq0 := hq; obtain ⟨hp, htx, ⟨f, har, hfr⟩, hrg, hss, ⟨A0, A1, hal⟩, ⟨o0, hwr⟩, hrd, p1, p2, p3, p4⟩ := hq
  refine PM.at (pl := [some (.ref 0), some (.int (nI r)), some (.int (y)), none]) rfl rfl (by simp [wle, wen]) ?_
  generalize hEN : wEm X 0 0 _ = EN
  refine w_aload_n d_CP_nth_0 rfl rfl ?_
  refine w_iload_n d_CP_nth_1 rfl ?_
  refine w_callV (as := [.int (nI r)]) (st := []) d_CP_nth_2 yM_CP_registerAt l_CP_62 vM_CP_registerAt hp rfl rfl rfl rfl (m_CP_regG hq0 hr) (by decide) (by decide) (by decide) (by decide) (Nat.le_of_ble_eq_true rfl) ?_
  rintro _ h9_1 ⟨rfl, e9_1⟩
  rw [e9_1]
  refine w_eq (st' := [.ref (pr r)]) rfl ?_
  refine w_astore_n d_CP_nth_5 (by decide) rfl ?_
  refine w_pl (pl' := [some (.ref 0), some (.int (nI r)), some (.int (y)), some (.ref (pr r))]) rfl ?_
  refine w_aload_n d_CP_nth_6 rfl rfl ?_
  refine w_ifnull d_CP_nth_7 ?_
  refine w_iload_n d_CP_nth_10 rfl ?_
  refine w_if_ge (tgt := 18) d_CP_nth_11 rfl (fun z => absurd z (Int32.not_le.mpr hy)) (fun _ => ?_)
  refine w_iconst (v := -1) d_CP_nth_14 (by decide) ?_
  refine w_goto (tgt := 23) d_CP_nth_15 rfl ?_
  rw [← hEN]
  refine w_iret d_CP_nth_23 rfl ?_
  exact ⟨rfl, rfl⟩
set_option maxHeartbeats 4000000 in
set_option maxRecDepth 100000 in
theorem m_CP_nthB {h : wH} {t : List Nat} {G : gG} {sp : Nat} {Es Ss : List Nat} {pr : Nat → Nat} (hq : hCQ h t G sp Es Ss pr) {x y : Int32} (hx : ¬ (0 ≤ x ∧ x < nI 3)) : PM X M_CP_nth 1 0 0 [.ref 0, .int (x), .int (y)] h (fun z h' => z = some (.int (-1)) ∧ h' = h) := by
  have hq0 := hq; obtain ⟨hp, htx, ⟨f, har, hfr⟩, hrg, hss, ⟨A0, A1, hal⟩, ⟨o0, hwr⟩, hrd, p1, p2, p3, p4⟩ := hq
  refine PM.at (pl := [some (.ref 0), some (.int (x)), some (.int (y)), none]) rfl rfl (by simp [wle, wen]) ?_
  generalize hEN : wEm X 0 0 _ = EN
  refine w_aload_n d_CP_nth_0 rfl rfl ?_
  refine w_iload_n d_CP_nth_1 rfl ?_
  refine w_callV (as := [.int (x)]) (st := []) d_CP_nth_2 yM_CP_registerAt l_CP_62 vM_CP_registerAt hp rfl rfl rfl rfl (m_CP_regB hq0 (x := x) hx) (by decide) (by decide) (by decide) (by decide) (Nat.le_of_ble_eq_true rfl) ?_
  rintro _ h9_1 ⟨rfl, e9_1⟩
  rw [e9_1]
  refine w_eq (st' := [.null]) rfl ?_
  refine w_astore_n d_CP_nth_5 (by decide) rfl ?_
  refine w_pl (pl' := [some (.ref 0), some (.int (x)), some (.int (y)), some (.null)]) rfl ?_
  refine w_aload_n d_CP_nth_6 rfl rfl ?_
  refine w_ifnullN (tgt := 14) d_CP_nth_7 rfl ?_
  refine w_iconst (v := -1) d_CP_nth_14 (by decide) ?_
  refine w_goto (tgt := 23) d_CP_nth_15 rfl ?_
  rw [← hEN]
  refine w_iret d_CP_nth_23 rfl ?_
  exact ⟨rfl, rfl⟩
end CP2
