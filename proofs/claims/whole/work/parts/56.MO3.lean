/-! the reference's copy, join, addRange: written by wip/gen/mo3.py -/
theorem mkS_0 (S : List Nat) : mkS 0 S [] = S := by
  unfold mkS
  rw [List.filter_nil, List.append_nil]
  exact List.filter_eq_self.mpr (fun a _ => rfl)
theorem mkS_3 (S : List Nat) : mkS 3 S [] = S := by
  unfold mkS
  rw [List.filter_nil, List.append_nil]
  exact List.filter_eq_self.mpr (fun a _ => by simp [eDec])
section MO3
variable {X : wX}
set_option maxHeartbeats 4000000 in
set_option maxRecDepth 100000 in
theorem m_MO_copy {h : wH} {sz ap gd dp wr fi : Int32} (hx : h[57]? = some (.inr (7, [.ref 58, .int (sz), .ref 59, .ref 60, .ref 61, .ref 62, .int (ap), .int (gd), .int (dp), .ref 63, .ref 64, .ref 65, .ref 66, .int (wr), .int (fi), .ref 67]))) {EE SS : Nat → List Nat} (hE : mE h EE SS) {f t : Nat} (hf : f < 12) (ht : t < 12) (hft : f ≠ t) : PM X M_MO_copy 0 0 0 [.ref 57, .int (nI f), .int (nI t)] h (fun z h' => z = none ∧ mE h' (va_up EE t (EE f)) (va_up SS t (SS f)) ∧ wOff h h' 59 4) := by
  obtain ⟨ef, cf, sf, nf, ha, hb, hc, hd, hs⟩ := id hE
  obtain ⟨s1, s2, s3, s4, s5, s6⟩ := hs f hf
  obtain ⟨u1, u2, u3, u4, u5, u6⟩ := hs t ht
  refine PM.at (pl := [some (.ref 57), some (.int (nI f)), some (.int (nI t)), none]) rfl rfl (by simp [wle, wen]) ?_
  generalize hEN : wEm X 0 0 _ = EN
  have L2 : ∀ (n : Nat) (i : Nat) (ef3 : Nat → Int32) (sf3 : Nat → Int64) (h3 : wH), ((SS f).length - i < n) → (i ≤ (SS f).length) → (h3[59]? = some (.inl (0, 5040, .inl ef3))) → (h3[60]? = some (.inl (0, 12, .inl (upd cf t (nI (EE f).length))))) → (h3[61]? = some (.inl (1, 240, .inr (.inl sf3)))) → (h3[62]? = some (.inl (0, 12, .inl (upd nf t (nI (SS f).length))))) → (wOff h h3 59 4) → (∀ j, j < (EE f).length → ef3 (420 * t + j) = ef (420 * f + j)) → (∀ k, (k < 420 * t ∨ 420 * t + 420 ≤ k) → ef3 k = ef k) → (∀ j, j < i → sf3 (20 * t + j) = sf (20 * f + j)) → (∀ k, (k < 20 * t ∨ 20 * t + 20 ≤ k) → sf3 k = sf k) → WP X M_MO_copy (wR 0 0 0) 0 EN 0 0 68 [some (.ref 57), some (.int (nI f)), some (.int (nI t)), some (.int (nI i))] [] h3 := by
    intro n
    induction n with
    | zero => intro i ef3 sf3 h3 k1 k2 m1 m2 m3 m4 k4 n1 n2 n3 n4; omega
    | succ n ih =>
      intro i ef3 sf3 h3 k1 k2 m1 m2 m3 m4 k4 n1 n2 n3 n4
      have hx3 := (k4 57 (by omega)).trans hx
      refine w_iload_n d_MO_copy_68 rfl ?_
      refine w_aload_n d_MO_copy_69 rfl rfl ?_
      refine w_get d_MO_copy_70 f_MO_23 hx3 rfl ?_
      refine w_iload_n d_MO_copy_73 rfl ?_
      refine w_iald d_MO_copy_74 m4 (vp_in_nI (by omega) (by decide)) ?_
      refine w_topi (y := nI (SS f).length) (by rw [nI_clamp (by omega), upd_ne hft]; exact s2) ?_
      refine w_icmp_ge (tgt := 106) d_MO_copy_75 rfl (fun c75 => ?_) (fun c75 => ?_)
      · have c75 := (nI_leI (a := (SS f).length) (b := i) (by omega) (by omega)).mp c75
        rw [← hEN]
        refine w_vret d_MO_copy_106 rfl ?_
        refine ⟨rfl, ⟨_, _, _, _, m1, m2, m3, m4, fun j hj => ?_⟩, k4⟩
        by_cases hjt : j = t
        · subst hjt
          rw [va_up_self, va_up_self]
          refine ⟨upd_eq, upd_eq, s3, s4, fun i2 x hx2 => ?_, fun i2 x hx2 => ?_⟩
          · have := (List.getElem?_eq_some_iff.mp hx2).1
            rw [n1 i2 this]; exact s5 i2 x hx2
          · have := (List.getElem?_eq_some_iff.mp hx2).1
            rw [n3 i2 (by omega)]; exact s6 i2 x hx2
        · rw [va_up_ne _ _ hjt, va_up_ne _ _ hjt]
          exact (hs j hj).keep (fun i2 hi2 => n2 _ (by omega)) (upd_ne hjt) (fun i2 hi2 => n4 _ (by omega)) (upd_ne hjt)
      · have c75 : i < (SS f).length := Nat.not_le.mp (fun z => c75 ((nI_leI (a := (SS f).length) (b := i) (by omega) (by omega)).mpr z))
        refine w_aload_n d_MO_copy_78 rfl rfl ?_
        refine w_get d_MO_copy_79 f_MO_19 hx3 rfl ?_
        refine w_bipush (v := nI 20) d_MO_copy_82 (by decide) ?_
        refine w_iload_n d_MO_copy_84 rfl ?_
        refine w_imul d_MO_copy_85 ?_
        refine w_topi (y := nI (20 * t)) (pk_mul 20 t) ?_
        refine w_iload_n d_MO_copy_86 rfl ?_
        refine w_iadd d_MO_copy_87 ?_
        refine w_topi (y := nI (20 * t + i)) (nI_add _ _) ?_
        refine w_aload_n d_MO_copy_88 rfl rfl ?_
        refine w_get d_MO_copy_89 f_MO_19 hx3 rfl ?_
        refine w_bipush (v := nI 20) d_MO_copy_92 (by decide) ?_
        refine w_iload_n d_MO_copy_94 rfl ?_
        refine w_imul d_MO_copy_95 ?_
        refine w_topi (y := nI (20 * f)) (pk_mul 20 f) ?_
        refine w_iload_n d_MO_copy_96 rfl ?_
        refine w_iadd d_MO_copy_97 ?_
        refine w_topi (y := nI (20 * f + i)) (nI_add _ _) ?_
        refine w_lald d_MO_copy_98 m3 (vp_in_nI (by omega) (by decide)) ?_
        refine w_topl (y := sf (20 * f + i)) (by rw [nI_clamp (by omega)]; exact n4 _ (by omega)) ?_
        refine w_last d_MO_copy_99 m3 (vp_in_nI (by omega) (by decide)) ?_
        refine w_nm (fun h1 e1 => ?_)
        have hx3_1 := wS_ne e1 (by omega) hx3
        have m1_1 := wS_ne e1 (by omega) m1
        have m2_1 := wS_ne e1 (by omega) m2
        have m3_1 := wS_eq e1 m3
        have m4_1 := wS_ne e1 (by omega) m4
        refine w_iinc (v := nI (i + 1)) d_MO_copy_100 rfl (nI_1 _) (by decide) ?_
        refine w_pl (pl' := [some (.ref 57), some (.int (nI f)), some (.int (nI t)), some (.int (nI (i + 1)))]) rfl ?_
        refine w_goto (tgt := 68) d_MO_copy_103 rfl ?_
        refine ih (i + 1) ef3 _ h1 (by omega) (by omega) m1_1 m2_1 m3_1 m4_1 (fun k hk => by rw [wS_off e1 (by omega), k4 k hk]) n1 n2 (fun j hj => ?_) (fun k hk => ?_)
        · rw [nI_clamp (by omega)]
          by_cases hji : j = i
          · subst hji; exact updL_eq
          · rw [updL_ne (by omega)]; exact n3 j (by omega)
        · rw [nI_clamp (by omega), updL_ne (by omega)]; exact n4 k hk
  have L1 : ∀ (n : Nat) (i : Nat) (ef3 : Nat → Int32) (h3 : wH), ((EE f).length - i < n) → (i ≤ (EE f).length) → (h3[59]? = some (.inl (0, 5040, .inl ef3))) → (h3[60]? = some (.inl (0, 12, .inl (upd cf t (nI (EE f).length))))) → (h3[61]? = some (.inl (1, 240, .inr (.inl sf)))) → (h3[62]? = some (.inl (0, 12, .inl (upd nf t (nI (SS f).length))))) → (wOff h h3 59 4) → (∀ j, j < i → ef3 (420 * t + j) = ef (420 * f + j)) → (∀ k, (k < 420 * t ∨ 420 * t + 420 ≤ k) → ef3 k = ef k) → WP X M_MO_copy (wR 0 0 0) 0 EN 0 0 26 [some (.ref 57), some (.int (nI f)), some (.int (nI t)), some (.int (nI i))] [] h3 := by
    intro n
    induction n with
    | zero => intro i ef3 h3 k1 k2 m1 m2 m3 m4 k4 n1 n2; omega
    | succ n ih =>
      intro i ef3 h3 k1 k2 m1 m2 m3 m4 k4 n1 n2
      have hx3 := (k4 57 (by omega)).trans hx
      refine w_iload_n d_MO_copy_26 rfl ?_
      refine w_aload_n d_MO_copy_27 rfl rfl ?_
      refine w_get d_MO_copy_28 f_MO_16 hx3 rfl ?_
      refine w_iload_n d_MO_copy_31 rfl ?_
      refine w_iald d_MO_copy_32 m2 (vp_in_nI (by omega) (by decide)) ?_
      refine w_topi (y := nI (EE f).length) (by rw [nI_clamp (by omega), upd_ne hft]; exact s1) ?_
      refine w_icmp_ge (tgt := 66) d_MO_copy_33 rfl (fun c33 => ?_) (fun c33 => ?_)
      · have c33 := (nI_leI (a := (EE f).length) (b := i) (by omega) (by omega)).mp c33
        refine w_iconst (v := nI 0) d_MO_copy_66 (by decide) ?_
        refine w_istore_n d_MO_copy_67 (by decide) ?_
        refine w_le (pl' := [some (.ref 57), some (.int (nI f)), some (.int (nI t)), some (.int (nI 0))]) ⟨rfl, rfl, rfl, rfl, trivial⟩ ?_
        exact L2 ((SS f).length + 1) 0 ef3 sf h3 (by omega) (Nat.zero_le _) m1 m2 m3 m4 k4 (fun j hj => n1 j (by omega)) n2 (fun j hj => by omega) (fun k hk => rfl)
      · have c33 : i < (EE f).length := Nat.not_le.mp (fun z => c33 ((nI_leI (a := (EE f).length) (b := i) (by omega) (by omega)).mpr z))
        refine w_aload_n d_MO_copy_36 rfl rfl ?_
        refine w_get d_MO_copy_37 f_MO_13 hx3 rfl ?_
        refine w_sipush (v := nI 420) d_MO_copy_40 (by decide) ?_
        refine w_iload_n d_MO_copy_43 rfl ?_
        refine w_imul d_MO_copy_44 ?_
        refine w_topi (y := nI (420 * t)) (pk_mul 420 t) ?_
        refine w_iload_n d_MO_copy_45 rfl ?_
        refine w_iadd d_MO_copy_46 ?_
        refine w_topi (y := nI (420 * t + i)) (nI_add _ _) ?_
        refine w_aload_n d_MO_copy_47 rfl rfl ?_
        refine w_get d_MO_copy_48 f_MO_13 hx3 rfl ?_
        refine w_sipush (v := nI 420) d_MO_copy_51 (by decide) ?_
        refine w_iload_n d_MO_copy_54 rfl ?_
        refine w_imul d_MO_copy_55 ?_
        refine w_topi (y := nI (420 * f)) (pk_mul 420 f) ?_
        refine w_iload_n d_MO_copy_56 rfl ?_
        refine w_iadd d_MO_copy_57 ?_
        refine w_topi (y := nI (420 * f + i)) (nI_add _ _) ?_
        refine w_iald d_MO_copy_58 m1 (vp_in_nI (by omega) (by decide)) ?_
        refine w_topi (y := ef (420 * f + i)) (by rw [nI_clamp (by omega)]; exact n2 _ (by omega)) ?_
        refine w_iast d_MO_copy_59 m1 (vp_in_nI (by omega) (by decide)) ?_
        refine w_nm (fun h2 e2 => ?_)
        have hx3_2 := wS_ne e2 (by omega) hx3
        have m1_2 := wS_eq e2 m1
        have m2_2 := wS_ne e2 (by omega) m2
        have m3_2 := wS_ne e2 (by omega) m3
        have m4_2 := wS_ne e2 (by omega) m4
        refine w_iinc (v := nI (i + 1)) d_MO_copy_60 rfl (nI_1 _) (by decide) ?_
        refine w_pl (pl' := [some (.ref 57), some (.int (nI f)), some (.int (nI t)), some (.int (nI (i + 1)))]) rfl ?_
        refine w_goto (tgt := 26) d_MO_copy_63 rfl ?_
        refine ih (i + 1) _ h2 (by omega) (by omega) m1_2 m2_2 m3_2 m4_2 (fun k hk => by rw [wS_off e2 (by omega), k4 k hk]) (fun j hj => ?_) (fun k hk => ?_)
        · rw [nI_clamp (by omega)]
          by_cases hji : j = i
          · subst hji; exact upd_eq
          · rw [upd_ne (by omega)]; exact n1 j (by omega)
        · rw [nI_clamp (by omega), upd_ne (by omega)]; exact n2 k hk
  refine w_aload_n d_MO_copy_0 rfl rfl ?_
  refine w_get d_MO_copy_1 f_MO_16 hx rfl ?_
  refine w_iload_n d_MO_copy_4 rfl ?_
  refine w_aload_n d_MO_copy_5 rfl rfl ?_
  refine w_get d_MO_copy_6 f_MO_16 hx rfl ?_
  refine w_iload_n d_MO_copy_9 rfl ?_
  refine w_iald d_MO_copy_10 hb (vp_in_nI (by omega) (by decide)) ?_
  refine w_topi (y := nI (EE f).length) (by rw [nI_clamp (by omega)]; exact s1) ?_
  refine w_iast d_MO_copy_11 hb (vp_in_nI (by omega) (by decide)) ?_
  refine w_nm (fun h3 e3 => ?_)
  have hx_3 := wS_ne e3 (by omega) hx
  have ha_3 := wS_ne e3 (by omega) ha
  have hb_3 := wS_eq e3 hb
  have hc_3 := wS_ne e3 (by omega) hc
  have hd_3 := wS_ne e3 (by omega) hd
  refine w_aload_n d_MO_copy_12 rfl rfl ?_
  refine w_get d_MO_copy_13 f_MO_23 hx_3 rfl ?_
  refine w_iload_n d_MO_copy_16 rfl ?_
  refine w_aload_n d_MO_copy_17 rfl rfl ?_
  refine w_get d_MO_copy_18 f_MO_23 hx_3 rfl ?_
  refine w_iload_n d_MO_copy_21 rfl ?_
  refine w_iald d_MO_copy_22 hd_3 (vp_in_nI (by omega) (by decide)) ?_
  refine w_topi (y := nI (SS f).length) (by rw [nI_clamp (by omega)]; exact s2) ?_
  refine w_iast d_MO_copy_23 hd_3 (vp_in_nI (by omega) (by decide)) ?_
  refine w_nm (fun h4 e4 => ?_)
  have hx_4 := wS_ne e4 (by omega) hx_3
  have ha_4 := wS_ne e4 (by omega) ha_3
  have hb_4 := wS_ne e4 (by omega) hb_3
  have hc_4 := wS_ne e4 (by omega) hc_3
  have hd_4 := wS_eq e4 hd_3
  refine w_iconst (v := nI 0) d_MO_copy_24 (by decide) ?_
  refine w_istore_n d_MO_copy_25 (by decide) ?_
  refine w_pl (pl' := [some (.ref 57), some (.int (nI f)), some (.int (nI t)), some (.int (nI 0))]) rfl ?_
  refine L1 ((EE f).length + 1) 0 ef h4 (by omega) (Nat.zero_le _) ha_4 ?_ hc_4 ?_ (fun k hk => by rw [wS_off e4 (by omega), wS_off e3 (by omega)]) (fun j hj => by omega) (fun k hk => rfl)
  · have := hb_4; rw [nI_clamp (by omega)] at this; exact this
  · have := hd_4; rw [nI_clamp (by omega)] at this; exact this
set_option maxHeartbeats 4000000 in
set_option maxRecDepth 100000 in
theorem m_MO_join {h : wH} {sz ap gd dp wr fi : Int32} (hx : h[57]? = some (.inr (7, [.ref 58, .int (sz), .ref 59, .ref 60, .ref 61, .ref 62, .int (ap), .int (gd), .int (dp), .ref 63, .ref 64, .ref 65, .ref 66, .int (wr), .int (fi), .ref 67]))) {EE SS : Nat → List Nat} (hE : mE h EE SS) {t b how : Nat} (ht : t < 12) (hb12 : b < 12) (ht10 : t ≠ 10) (hb10 : b ≠ 10) (hh : how ≤ 3) (hTo : eOk (EE t)) (hBo : eOk (EE b)) (hlen : (EE t).length + (EE b).length ≤ 420) (hTs : ∀ y ∈ SS t, sOk y) (hBs : ∀ y ∈ SS b, sOk y) (hsl : (SS t).length + (SS b).length ≤ 20) : PM X M_MO_join 2 0 0 [.ref 57, .int (nI t), .int (nI b), .int (nI how)] h (fun z h' => z = none ∧ wOff h h' 59 4 ∧ ∃ EE' SS' : Nat → List Nat, mE h' EE' SS' ∧ EE' t = (eCmb how (EE t) (EE b)) ∧ SS' t = (mkS how (SS t) (SS b)) ∧ ∀ j, j ≠ t → j ≠ 10 → EE' j = EE j ∧ SS' j = SS j) := by
  refine PM.at (pl := [some (.ref 57), some (.int (nI t)), some (.int (nI b)), some (.int (nI how))]) rfl rfl (by simp [wle, wen]) ?_
  generalize hEN : wEm X 0 0 _ = EN
  refine w_aload_n d_MO_join_0 rfl rfl ?_
  refine w_iload_n d_MO_join_1 rfl ?_
  refine w_iload_n d_MO_join_2 rfl ?_
  refine w_iload_n d_MO_join_3 rfl ?_
  refine w_callV (as := [.int (nI t), .int (nI b), .int (nI how)]) (st := []) d_MO_join_4 yM_MO_make l_MO_72 vM_MO_make hx rfl rfl rfl rfl (m_MO_make hx hE ht hb12 ht10 hb10 hh hTo hBo hlen hTs hBs hsl) (by decide) (by decide) (by decide) (by decide) (Nat.le_of_ble_eq_true rfl) ?_
  rintro _ h1 ⟨rfl, hE1, ho1⟩
  refine w_eq (st' := []) rfl ?_
  have hx1 := (ho1 57 (by omega)).trans hx
  refine w_aload_n d_MO_join_7 rfl rfl ?_
  refine w_bipush (v := nI 10) d_MO_join_8 (by decide) ?_
  refine w_iload_n d_MO_join_10 rfl ?_
  refine w_callV (as := [.int (nI 10), .int (nI t)]) (st := []) d_MO_join_11 yM_MO_copy l_MO_76 vM_MO_copy hx1 rfl rfl rfl rfl (m_MO_copy hx1 hE1 (f := 10) (t := t) (by decide) ht (Ne.symm ht10)) (by decide) (by decide) (by decide) (by decide) (Nat.le_of_ble_eq_true rfl) ?_
  rintro _ h2 ⟨rfl, hE2, ho2⟩
  refine w_eq (st' := []) rfl ?_
  rw [← hEN]
  refine w_vret d_MO_join_14 rfl ?_
  refine ⟨rfl, ho1.tr ho2, _, _, hE2, ?_, ?_, fun j hjt hj10 => ?_⟩
  · rw [va_up_self, va_up_self]
  · rw [va_up_self, va_up_self]
  · rw [va_up_ne _ _ hjt, va_up_ne _ _ hj10, va_up_ne _ _ hjt, va_up_ne _ _ hj10]; exact ⟨rfl, rfl⟩
set_option maxHeartbeats 4000000 in
set_option maxRecDepth 100000 in
theorem m_MO_addRange {h : wH} {sz ap gd dp wr fi : Int32} (hx : h[57]? = some (.inr (7, [.ref 58, .int (sz), .ref 59, .ref 60, .ref 61, .ref 62, .int (ap), .int (gd), .int (dp), .ref 63, .ref 64, .ref 65, .ref 66, .int (wr), .int (fi), .ref 67]))) {EE SS : Nat → List Nat} (hE : mE h EE SS) {t a c : Nat} (ht : t < 12) (ht9 : t ≠ 9) (ht10 : t ≠ 10) (hac : a ≤ c) (hc1 : c < 1114112) (hTo : eOk (EE t)) (hlen : (EE t).length ≤ 418) (hTs : ∀ y ∈ SS t, sOk y) : PM X M_MO_addRange 3 0 0 [.ref 57, .int (nI t), .int (nI a), .int (nI c)] h (fun z h' => z = none ∧ wOff h h' 59 4 ∧ ∃ EE' SS' : Nat → List Nat, mE h' EE' SS' ∧ EE' t = eCmb 0 (EE t) [a, c + 1] ∧ SS' t = SS t ∧ ∀ j, j ≠ t → j ≠ 9 → j ≠ 10 → EE' j = EE j ∧ SS' j = SS j) := by
  have hac1 := (iOk_ran hac hc1).1
  refine PM.at (pl := [some (.ref 57), some (.int (nI t)), some (.int (nI a)), some (.int (nI c))]) rfl rfl (by simp [wle, wen]) ?_
  generalize hEN : wEm X 0 0 _ = EN
  refine w_aload_n d_MO_addRange_0 rfl rfl ?_
  refine w_bipush (v := nI 9) d_MO_addRange_1 (by decide) ?_
  refine w_callV (as := [.int (nI 9)]) (st := []) d_MO_addRange_3 yM_MO_empty l_MO_48 vM_MO_empty hx rfl rfl rfl rfl (m_MO_empty hx hE (t := 9) (by decide)) (by decide) (by decide) (by decide) (by decide) (Nat.le_of_ble_eq_true rfl) ?_
  rintro _ h1_ ⟨rfl, hE1, ho1⟩
  refine w_eq (st' := []) rfl ?_
  have hx1 := (ho1 57 (by omega)).trans hx
  obtain ⟨ef, cf, sf, nf, ha, hb, hc, hd, hs⟩ := id hE1
  have slt := (hs t ht).2.2.2.1
  rw [va_up_ne _ _ ht9] at slt
  refine w_aload_n d_MO_addRange_6 rfl rfl ?_
  refine w_get d_MO_addRange_7 f_MO_13 hx1 rfl ?_
  refine w_sipush (v := nI 3780) d_MO_addRange_10 (by decide) ?_
  refine w_iload_n d_MO_addRange_13 rfl ?_
  refine w_iast d_MO_addRange_14 ha (vp_in_nI (by decide) (by decide)) ?_
  refine w_nm (fun h1 e1 => ?_)
  have hx1_1 := wS_ne e1 (by omega) hx1
  have ha_1 := wS_eq e1 ha
  have hb_1 := wS_ne e1 (by omega) hb
  have hc_1 := wS_ne e1 (by omega) hc
  have hd_1 := wS_ne e1 (by omega) hd
  refine w_aload_n d_MO_addRange_15 rfl rfl ?_
  refine w_get d_MO_addRange_16 f_MO_13 hx1_1 rfl ?_
  refine w_sipush (v := nI 3781) d_MO_addRange_19 (by decide) ?_
  refine w_iload_n d_MO_addRange_22 rfl ?_
  refine w_iconst (v := nI 1) d_MO_addRange_23 (by decide) ?_
  refine w_iadd d_MO_addRange_24 ?_
  refine w_topi (y := nI (c + 1)) (nI_1 _) ?_
  refine w_iast d_MO_addRange_25 ha_1 (vp_in_nI (by decide) (by decide)) ?_
  refine w_nm (fun h2 e2 => ?_)
  have hx1_2 := wS_ne e2 (by omega) hx1_1
  have ha_2 := wS_eq e2 ha_1
  have hb_2 := wS_ne e2 (by omega) hb_1
  have hc_2 := wS_ne e2 (by omega) hc_1
  have hd_2 := wS_ne e2 (by omega) hd_1
  refine w_aload_n d_MO_addRange_26 rfl rfl ?_
  refine w_get d_MO_addRange_27 f_MO_16 hx1_2 rfl ?_
  refine w_bipush (v := nI 9) d_MO_addRange_30 (by decide) ?_
  refine w_iconst (v := nI 2) d_MO_addRange_32 (by decide) ?_
  refine w_iast d_MO_addRange_33 hb_2 (vp_in_nI (by omega) (by decide)) ?_
  refine w_nm (fun h3 e3 => ?_)
  have hx1_3 := wS_ne e3 (by omega) hx1_2
  have ha_3 := wS_ne e3 (by omega) ha_2
  have hb_3 := wS_eq e3 hb_2
  have hc_3 := wS_ne e3 (by omega) hc_2
  have hd_3 := wS_ne e3 (by omega) hd_2
  refine w_aload_n d_MO_addRange_34 rfl rfl ?_
  refine w_iload_n d_MO_addRange_35 rfl ?_
  refine w_bipush (v := nI 9) d_MO_addRange_36 (by decide) ?_
  refine w_iconst (v := nI 0) d_MO_addRange_38 (by decide) ?_
  have hE2 : mE h3 (va_up EE 9 [a, c + 1]) (va_up SS 9 []) := by
    refine ⟨_, _, _, _, ha_3, hb_3, hc_3, hd_3, fun j hj => ?_⟩
    rw [nI_clamp (by decide), nI_clamp (by decide), nI_clamp (by decide)]
    by_cases hj9 : j = 9
    · subst hj9
      rw [va_up_self, va_up_self]
      have h9 := hs 9 hj
      rw [va_up_self, va_up_self] at h9
      refine ⟨upd_eq, h9.2.1, by show 2 ≤ 420; decide, Nat.zero_le _, fun i x hx9 => ?_, fun i x hx9 => by simp at hx9⟩
      match i, hx9 with
      | 0, hx9 => cases hx9; rw [upd_ne (by decide)]; exact upd_eq
      | 1, hx9 => cases hx9; exact upd_eq
      | i + 2, hx9 => simp at hx9
    · have h9 := hs j hj
      rw [va_up_ne _ _ hj9, va_up_ne _ _ hj9] at h9 ⊢
      exact h9.keep (fun i hi => by rw [upd_ne (by omega), upd_ne (by omega)]) (upd_ne hj9) (fun _ _ => rfl) rfl
  have ho2 : wOff h h3 59 4 := fun k hk => by rw [wS_off e3 (by omega), wS_off e2 (by omega), wS_off e1 (by omega), ho1 k hk]
  refine w_callV (as := [.int (nI t), .int (nI 9), .int (nI 0)]) (st := []) d_MO_addRange_39 yM_MO_join l_MO_80 vM_MO_join hx1_3 rfl rfl rfl rfl (m_MO_join hx1_3 hE2 (t := t) (b := 9) (how := 0) ht (by decide) ht10 (by decide) (by decide) (by rw [va_up_ne _ _ ht9]; exact hTo) (by rw [va_up_self]; exact hac1) (by rw [va_up_ne _ _ ht9, va_up_self]; show _ + 2 ≤ 420; omega) (by rw [va_up_ne _ _ ht9]; exact hTs) (by rw [va_up_self]; intro y hy; cases hy) (by rw [va_up_ne _ _ ht9, va_up_self]; show _ + 0 ≤ 20; omega)) (by decide) (by decide) (by decide) (by decide) (Nat.le_of_ble_eq_true rfl) ?_
  rintro _ h3_ ⟨rfl, ho3, EE3, SS3, hE3, q1, q2, q3⟩
  refine w_eq (st' := []) rfl ?_
  rw [← hEN]
  refine w_vret d_MO_addRange_42 rfl ?_
  rw [va_up_ne _ _ ht9, va_up_self] at q1 q2
  rw [mkS_0] at q2
  refine ⟨rfl, ho2.tr ho3, EE3, SS3, hE3, q1, q2, fun j hjt hj9 hj10 => ?_⟩
  have := q3 j hjt hj10
  rw [va_up_ne _ _ hj9, va_up_ne _ _ hj9] at this
  exact this
end MO3
