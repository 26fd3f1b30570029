/-! CodePointSets.apply: written by wip/gen/cp4.py -/
/-- the value of a text -/
def vT (B : Nat → Br) (t : List Nat) : Option (List Nat × List Nat) := match cut t with
  | none => none
  | some tk => rAll tk 60 B 0 0
theorem hPR.tok {h h' : wH} {tk tk' : List (Nat × Int32)} {B : Nat → Br} {d nx o s v : Nat} {b : Nat → Nat} {t l : List Nat} {pos : Nat} (a : hPR h tk B d nx o s v b) (e : hTR h' 14 t tk' l pos) (c : wOff h h' 14 7) : hPR h' tk' B d nx o s v b := by
  obtain ⟨a1, -, ⟨f, a3, a3'⟩, a4, ⟨E1, S1, a5⟩, ⟨E2, S2, a6⟩, a7, a8, a9, a10, a11, a12⟩ := a
  have i1 := P1_in a7
  have i2 := P1_in a8
  refine ⟨(c _ (by omega)).trans a1, ⟨t, l, pos, e⟩, ⟨f, (c _ (by omega)).trans a3, a3'⟩, fun k hk => ?_, ⟨E1, S1, a5.off c (by omega)⟩, ⟨E2, S2, a6.off c (by omega)⟩, a7, a8, a9, a10, a11, a12⟩
  have i3 := P1_in (a9 k hk)
  exact (a4 k hk).off c (by omega) (by omega)
section CP4
variable {X : wX}
set_option maxHeartbeats 4000000 in
set_option maxRecDepth 100000 in
theorem m_CP_applyG (hT : xTab X) {h : wH} {t : List Nat} {G : gG} {sp : Nat} {Es Ss : List Nat} {pr : Nat → Nat} (hq : hCQ h t G sp Es Ss pr) (hg : gOk t G) {r : Nat} (hr : r < 3) : PM X M_CP_apply 10 0 0 [.ref 0, .int (nI r)] h (fun z h' => ∃ B, z = some (.int (bI (vT B t).isSome)) ∧ hCP h' t (match vT B t with | some V => gUp G r V | none => G) ∧ (∀ V, vT B t = some V → iOk V ∧ V.1.length ≤ 120) ∧ wOff h h' 0 57) := by
  have hq0 := hq; obtain ⟨hp, htx, ⟨f, har, hfr⟩, hrg, hss, ⟨A0, A1, hal⟩, ⟨o0, hwr⟩, hrd, p1, p2, p3, p4⟩ := hq
  obtain ⟨tf, tp, ta, t60, thf⟩ := id htx
  have rm := hrg r hr
  obtain ⟨gf, gk, gp, ga, gb, gl1, gl2, ghf, ghk⟩ := id rm
  have q1 := P2_in (p1 r hr)
  have q2 := P2_in p2
  have rok := hg.2 r hr
  have e31 : ∀ y ∈ (G r).1, y < 2 ^ 31 := fun y hy => by have := rok.1.2 y hy; omega
  obtain ⟨tk0, B, d0, nx0, o9, s9, v9, b9, hpr⟩ := hrd
  have rp := hpr.1
  obtain ⟨tt0, l0, pos0, htr⟩ := id hpr.2.1
  have trp := htr.choose_spec.choose_spec.1
  have i1 := P2_in (p1 r hr)
  refine PM.at (pl := [some (.ref 0), some (.int (nI r)), none]) rfl rfl (by simp [wle, wen]) ?_
  generalize hEN : wEm X 0 0 _ = EN
  refine w_aload_n d_CP_apply_0 rfl rfl ?_
  refine w_iload_n d_CP_apply_1 rfl ?_
  refine w_callV (as := [.int (nI r)]) (st := []) d_CP_apply_2 yM_CP_registerAt l_CP_62 vM_CP_registerAt hp rfl rfl rfl rfl (m_CP_regG hq0 hr) (by decide) (by decide) (by decide) (by decide) (Nat.le_of_ble_eq_true rfl) ?_
  rintro _ h9_1 ⟨rfl, e9_1⟩
  rw [e9_1]
  refine w_eq (st' := [.ref (pr r)]) rfl ?_
  refine w_astore_n d_CP_apply_5 (by decide) rfl ?_
  refine w_pl (pl' := [some (.ref 0), some (.int (nI r)), some (.ref (pr r))]) rfl ?_
  refine w_aload_n d_CP_apply_6 rfl rfl ?_
  refine w_ifnull d_CP_apply_7 ?_
  refine w_aload_n d_CP_apply_10 rfl rfl ?_
  refine w_get d_CP_apply_11 f_CP_26 hp rfl ?_
  refine w_get d_CP_apply_14 f_CP_66 rp rfl ?_
  refine w_aload_n d_CP_apply_17 rfl rfl ?_
  refine w_get d_CP_apply_18 f_CP_10 hp rfl ?_
  refine w_callV (as := [.ref 1]) (st := []) d_CP_apply_21 yM_TR_cutText l_CP_70 vM_TR_cutText trp rfl rfl rfl rfl (m_TR_cutText htr htx (by omega) hg.1) (by decide) (by decide) (by decide) (by decide) (Nat.le_of_ble_eq_true rfl) ?_
  rintro _ h1 ⟨rfl, ho1, ⟨t8, tk8, l8, p8, htr8⟩, hcut⟩
  refine w_eq (st' := [.int (bI (cut t).isSome)]) rfl ?_
  have hp1 := (ho1 0 (by omega)).trans hp
  refine w_if_eq (tgt := 37) d_CP_apply_24 rfl (fun c24 => ?_) (fun c24 => ?_)
  · have c24 := bI_f c24
    have hvn : vT B t = none := by unfold vT; cases hz : cut t with | none => rfl | some q => rw [hz] at c24; cases c24
    have hfin := hq0.reader ⟨_, _, _, _, _, _, _, _, hpr.tok htr8 ho1⟩ (ho1.wide (by omega) (by omega))
    have hof : wOff h h1 0 57 := ho1.wide (by omega) (by omega)
    refine w_iconst (v := nI 0) d_CP_apply_37 (by decide) ?_
    rw [← hEN]
    refine w_zret d_CP_apply_38 rfl (by first | exact Or.inl rfl | exact Or.inr rfl) ?_
    refine ⟨B, by rw [hvn]; rfl, by rw [hvn]; exact ⟨_, _, _, _, hfin⟩, fun V hV => (by rw [hvn] at hV; cases hV), hof⟩
  · have c24 := bI_t c24
    obtain ⟨tk, htk⟩ := Option.isSome_iff_exists.mp c24
    obtain ⟨l1, q1_, htr1⟩ := hcut tk htk
    have hpr1 := hpr.tok htr1 ho1
    have hq1 := hq0.reader ⟨_, _, _, _, _, _, _, _, hpr1⟩ (ho1.wide (by omega) (by omega))
    have rp1 := hpr1.1
    obtain ⟨tok1, tok2⟩ := cut_ok hg.1 t60 htk
    have hvt : vT B t = rAll tk 60 B 0 0 := by unfold vT; rw [htk]
    refine w_aload_n d_CP_apply_27 rfl rfl ?_
    refine w_get d_CP_apply_28 f_CP_26 hp1 rfl ?_
    refine w_callV (as := []) (st := []) d_CP_apply_31 yM_PR_readPattern l_CP_76 vM_PR_readPattern rp1 rfl rfl rfl rfl (m_PR_read hT hpr1 tok1 tok2) (by decide) (by decide) (by decide) (by decide) (Nat.le_of_ble_eq_true rfl) ?_
    rintro _ h2 ⟨rfl, ho2, hrd2, hv2⟩
    refine w_eq (st' := [.int (bI (rAll tk 60 B 0 0).isSome)]) rfl ?_
    have hp2 := (ho2 0 (by omega)).trans hp1
    have hq2 := hq1.reader hrd2 ho2
    refine w_if_ne (tgt := 39) d_CP_apply_34 rfl (fun c34 => ?_) (fun c34 => ?_)
    · have c34 := bI_t c34
      obtain ⟨V, hV⟩ := Option.isSome_iff_exists.mp c34
      obtain ⟨tk9, B9, d9, nx9, o8, s8, v8, b8, hpr2, hms2, hv8, hi8, hl8⟩ := hv2 V hV
      have rp2 := hpr2.1
      have iv8 := P1_in hv8
      have gp2 := (hq2.2.2.2.1 r hr).choose_spec.choose_spec.1
      refine w_aload_n d_CP_apply_39 rfl rfl ?_
      refine w_aload_n d_CP_apply_40 rfl rfl ?_
      refine w_get d_CP_apply_41 f_CP_26 hp2 rfl ?_
      refine w_get d_CP_apply_44 f_CP_80 rp2 rfl ?_
      refine w_callV (as := [.ref v8]) (st := []) d_CP_apply_47 yM_MS_become l_CP_83 vM_MS_become gp2 rfl rfl rfl rfl (m_MS_become (hq2.2.2.2.1 r hr) hms2 (by omega)) (by decide) (by decide) (by decide) (by decide) (Nat.le_of_ble_eq_true rfl) ?_
      rintro _ h3 ⟨rfl, hm3, ho3⟩
      refine w_eq (st' := []) rfl ?_
      refine w_iconst (v := nI 1) d_CP_apply_50 (by decide) ?_
      rw [← hEN]
      refine w_zret d_CP_apply_51 rfl (by first | exact Or.inl rfl | exact Or.inr rfl) ?_
      refine ⟨B, by rw [hvt, hV]; rfl, ?_, fun V9 hV9 => ?_, ((ho1.wide (by omega) (by omega)).tr (ho2.wide (by omega) (by omega))).tr (ho3.wide (by omega) (by omega))⟩
      · rw [hvt, hV]; exact ⟨_, _, _, _, hq2.reg hr hm3 ho3⟩
      · rw [hvt, hV] at hV9; cases hV9; exact ⟨hi8, hl8⟩
    · have c34 := bI_f c34
      have hvn : vT B t = none := by rw [hvt]; cases hz : rAll tk 60 B 0 0 with | none => rfl | some q => rw [hz] at c34; cases c34
      have hfin := hq2
      have hof : wOff h h2 0 57 := (ho1.wide (by omega) (by omega)).tr (ho2.wide (by omega) (by omega))
      refine w_iconst (v := nI 0) d_CP_apply_37 (by decide) ?_
      rw [← hEN]
      refine w_zret d_CP_apply_38 rfl (by first | exact Or.inl rfl | exact Or.inr rfl) ?_
      refine ⟨B, by rw [hvn]; rfl, by rw [hvn]; exact ⟨_, _, _, _, hfin⟩, fun V hV => (by rw [hvn] at hV; cases hV), hof⟩
set_option maxHeartbeats 4000000 in
set_option maxRecDepth 100000 in
theorem m_CP_applyB {h : wH} {t : List Nat} {G : gG} {sp : Nat} {Es Ss : List Nat} {pr : Nat → Nat} (hq : hCQ h t G sp Es Ss pr) {x : Int32} (hx : ¬ (0 ≤ x ∧ x < nI 3)) : PM X M_CP_apply 10 0 0 [.ref 0, .int (x)] h (fun z h' => z = some (.int (bI false)) ∧ h' = h) := by
  have hq0 := hq; obtain ⟨hp, htx, ⟨f, har, hfr⟩, hrg, hss, ⟨A0, A1, hal⟩, ⟨o0, hwr⟩, hrd, p1, p2, p3, p4⟩ := hq
  refine PM.at (pl := [some (.ref 0), some (.int (x)), none]) rfl rfl (by simp [wle, wen]) ?_
  generalize hEN : wEm X 0 0 _ = EN
  refine w_aload_n d_CP_apply_0 rfl rfl ?_
  refine w_iload_n d_CP_apply_1 rfl ?_
  refine w_callV (as := [.int (x)]) (st := []) d_CP_apply_2 yM_CP_registerAt l_CP_62 vM_CP_registerAt hp rfl rfl rfl rfl (m_CP_regB hq0 (x := x) hx) (by decide) (by decide) (by decide) (by decide) (Nat.le_of_ble_eq_true rfl) ?_
  rintro _ h9_1 ⟨rfl, e9_1⟩
  rw [e9_1]
  refine w_eq (st' := [.null]) rfl ?_
  refine w_astore_n d_CP_apply_5 (by decide) rfl ?_
  refine w_pl (pl' := [some (.ref 0), some (.int (x)), some (.null)]) rfl ?_
  refine w_aload_n d_CP_apply_6 rfl rfl ?_
  refine w_ifnullN (tgt := 37) d_CP_apply_7 rfl ?_
  refine w_iconst (v := nI 0) d_CP_apply_37 (by decide) ?_
  rw [← hEN]
  refine w_zret d_CP_apply_38 rfl (by first | exact Or.inl rfl | exact Or.inr rfl) ?_
  exact ⟨rfl, rfl⟩
end CP4
