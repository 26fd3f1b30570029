/-! the reference's calls: written by wip/gen/mo4.py -/
def mT (h : wH) (t : List Nat) : Prop := ∃ f : Nat → Int32, h[58]? = some (.inl (0, 60, .inl f)) ∧ t.length ≤ 60 ∧ ∀ i x, t[i]? = some x → f i = nI x
/-- the other arrays -/
def mA (h : wH) : Prop := (∃ f : Nat → Int32, h[63]? = some (.inl (2, 6, .inl f))) ∧ (∃ f : Nat → Int32, h[64]? = some (.inl (0, 6, .inl f))) ∧ (∃ f : Nat → Int32, h[65]? = some (.inl (0, 6, .inl f))) ∧ (∃ f : Nat → Int32, h[66]? = some (.inl (0, 60, .inl f))) ∧ ∃ f : Nat → Int32, h[67]? = some (.inl (2, 61, .inl f))
theorem mT.off {h h' : wH} {p n : Nat} {t : List Nat} (a : mT h t) (c : wOff h h' p n) (hd : p + n ≤ 58 ∨ 59 ≤ p) : mT h' t := by
  obtain ⟨f, h1, h2⟩ := a
  exact ⟨f, (c _ (by omega)).trans h1, h2⟩
theorem mA.off {h h' : wH} {p n : Nat} (a : mA h) (c : wOff h h' p n) (hd : p + n ≤ 63 ∨ 68 ≤ p) : mA h' := by
  obtain ⟨⟨f1, h1⟩, ⟨f2, h2⟩, ⟨f3, h3⟩, ⟨f4, h4⟩, ⟨f5, h5⟩⟩ := a
  exact ⟨⟨f1, (c _ (by omega)).trans h1⟩, ⟨f2, (c _ (by omega)).trans h2⟩, ⟨f3, (c _ (by omega)).trans h3⟩, ⟨f4, (c _ (by omega)).trans h4⟩, ⟨f5, (c _ (by omega)).trans h5⟩⟩
/-- the reference, between two calls -/
def hMO (h : wH) (t : List Nat) (EE SS : Nat → List Nat) : Prop := (∃ ap gd dp wr fi : Int32, h[57]? = some (.inr (7, [.ref 58, .int (nI t.length), .ref 59, .ref 60, .ref 61, .ref 62, .int (ap), .int (gd), .int (dp), .ref 63, .ref 64, .ref 65, .ref 66, .int (wr), .int (fi), .ref 67]))) ∧ mT h t ∧ mE h EE SS ∧ mA h
theorem hMO.sets {h h' : wH} {t : List Nat} {EE SS EE' SS' : Nat → List Nat} (a : hMO h t EE SS) (b : mE h' EE' SS') (c : wOff h h' 59 4) : hMO h' t EE' SS' := by
  obtain ⟨⟨ap, gd, dp, wr, fi, h1⟩, h2, h3, h4⟩ := a
  exact ⟨⟨ap, gd, dp, wr, fi, (c _ (by omega)).trans h1⟩, h2.off c (by omega), b, h4.off c (by omega)⟩
/-- the strings of the class and of the reference -/
def sR (S T : List Nat) : Prop := eAsc S ∧ T.Nodup ∧ ∀ k, k ∈ S ↔ k ∈ T
/-- what the reference's values keep to -/
def mOk (t : List Nat) (EE SS : Nat → List Nat) : Prop := (∀ x ∈ t, x < 1114112) ∧ (∀ r, r < 3 → eOk (EE r) ∧ (EE r).length ≤ 200 ∧ (∀ y ∈ SS r, sOk y) ∧ (SS r).length ≤ 8) ∧ EE 11 = [0, 1114112] ∧ SS 11 = []
section MO4
variable {X : wX}
set_option maxHeartbeats 4000000 in
set_option maxRecDepth 100000 in
theorem m_MO_typeG {h : wH} {t : List Nat} {EE SS : Nat → List Nat} (hm : hMO h t EE SS) {c : Nat} (hc0 : c < 1114112) : PM X M_MO_type 0 0 0 [.ref 57, .int (nI c)] h (fun z h' => z = some (.int (bI (decide (t.length < 60)))) ∧ hMO h' (if t.length < 60 then t ++ [c] else t) EE SS ∧ wOff h h' 57 11) := by
  have hm0 := hm; obtain ⟨⟨ap, gd, dp, wr, fi, hx⟩, htx, hE, hA⟩ := hm
  obtain ⟨tf, tp, t60, thf⟩ := id htx
  refine PM.at (pl := [some (.ref 57), some (.int (nI c))]) rfl rfl (by simp [wle, wen]) ?_
  generalize hEN : wEm X 0 0 _ = EN
  refine w_iload_n d_MO_type_0 rfl ?_
  refine w_if_lt (tgt := 19) d_MO_type_1 rfl (fun z => absurd z (nI_pos (by omega))) (fun _ => ?_)
  refine w_iload_n d_MO_type_4 rfl ?_
  refine w_ldc (v := nI 1114112) d_MO_type_5 k_MO_42 ?_
  refine w_icmp_ge (tgt := 19) d_MO_type_7 rfl (fun z => absurd z (nI_ge hc0 (by decide))) (fun _ => ?_)
  refine w_aload_n d_MO_type_10 rfl rfl ?_
  refine w_get d_MO_type_11 f_MO_43 hx rfl ?_
  refine w_bipush (v := nI 60) d_MO_type_14 (by decide) ?_
  refine w_icmp_ne (tgt := 21) d_MO_type_16 rfl (fun c16 => ?_) (fun c16 => ?_)
  · have c16 : t.length < 60 := by have : ¬ t.length = 60 := fun z => c16 (by rw [z]); omega
    refine w_aload_n d_MO_type_21 rfl rfl ?_
    refine w_get d_MO_type_22 f_MO_7 hx rfl ?_
    refine w_aload_n d_MO_type_25 rfl rfl ?_
    refine w_get d_MO_type_26 f_MO_43 hx rfl ?_
    refine w_iload_n d_MO_type_29 rfl ?_
    refine w_iast d_MO_type_30 tp (vp_in_nI c16 (by decide)) ?_
    refine w_nm (fun h1 e1 => ?_)
    have hx_1 := wS_ne e1 (by omega) hx
    have tp_1 := wS_eq e1 tp
    refine w_aload_n d_MO_type_31 rfl rfl ?_
    refine w_aload_n d_MO_type_32 rfl rfl ?_
    refine w_get d_MO_type_33 f_MO_43 hx_1 rfl ?_
    refine w_iconst (v := nI 1) d_MO_type_36 (by decide) ?_
    refine w_iadd d_MO_type_37 ?_
    refine w_topi (y := nI (t.length + 1)) (nI_1 _) ?_
    refine w_put d_MO_type_38 f_MO_43 rfl hx_1 rfl rfl rfl ?_
    refine w_nm (fun h2 e2 => ?_)
    have hx_2 := wS_eq e2 hx_1
    have tp_2 := wS_ne e2 (by omega) tp_1
    refine w_iconst (v := nI 1) d_MO_type_41 (by decide) ?_
    rw [← hEN]
    refine w_zret d_MO_type_42 rfl (by first | exact Or.inl rfl | exact Or.inr rfl) ?_
    rw [decide_eq_true c16, if_pos c16]
    refine ⟨rfl, ⟨⟨ap, gd, dp, wr, fi, by rw [List.length_append]; exact hx_2⟩, ⟨_, tp_2, by rw [List.length_append, List.length_singleton]; omega, ?_⟩, ?_, ?_⟩, fun k hk => by rw [wS_off e2 (by omega), wS_off e1 (by omega)]⟩
    · rw [nI_clamp (by omega)]; exact upd_at thf
    · exact hE.off (p := 57) (n := 2) (fun k hk => by rw [wS_off e2 (by omega), wS_off e1 (by omega)]) (by omega)
    · exact hA.off (p := 57) (n := 2) (fun k hk => by rw [wS_off e2 (by omega), wS_off e1 (by omega)]) (by omega)
  · have c16 : ¬ t.length < 60 := by have := (nI_eq (a := t.length) (b := 60) (by omega) (by decide)).mp c16; omega
    refine w_iconst (v := nI 0) d_MO_type_19 (by decide) ?_
    rw [← hEN]
    refine w_zret d_MO_type_20 rfl (by first | exact Or.inl rfl | exact Or.inr rfl) ?_
    rw [decide_eq_false c16, if_neg c16]
    exact ⟨rfl, hm0, wOff.rf⟩
set_option maxHeartbeats 4000000 in
set_option maxRecDepth 100000 in
theorem m_MO_typeB {h : wH} {t : List Nat} {EE SS : Nat → List Nat} (hm : hMO h t EE SS) {x : Int32} (hxr : ¬ (0 ≤ x ∧ x < nI 1114112)) : PM X M_MO_type 0 0 0 [.ref 57, .int (x)] h (fun z h' => z = some (.int (bI false)) ∧ h' = h) := by
  have hm0 := hm; obtain ⟨⟨ap, gd, dp, wr, fi, hx⟩, htx, hE, hA⟩ := hm
  refine PM.at (pl := [some (.ref 57), some (.int (x))]) rfl rfl (by simp [wle, wen]) ?_
  generalize hEN : wEm X 0 0 _ = EN
  refine w_iload_n d_MO_type_0 rfl ?_
  refine w_if_lt (tgt := 19) d_MO_type_1 rfl (fun c1 => ?_) (fun c1 => ?_)
  · refine w_iconst (v := nI 0) d_MO_type_19 (by decide) ?_
    rw [← hEN]
    refine w_zret d_MO_type_20 rfl (by first | exact Or.inl rfl | exact Or.inr rfl) ?_
    exact ⟨rfl, rfl⟩
  · refine w_iload_n d_MO_type_4 rfl ?_
    refine w_ldc (v := nI 1114112) d_MO_type_5 k_MO_42 ?_
    refine w_icmp_ge (tgt := 19) d_MO_type_7 rfl (fun c7 => ?_) (fun c7 => ?_)
    · refine w_iconst (v := nI 0) d_MO_type_19 (by decide) ?_
      rw [← hEN]
      refine w_zret d_MO_type_20 rfl (by first | exact Or.inl rfl | exact Or.inr rfl) ?_
      exact ⟨rfl, rfl⟩
    · exact absurd ⟨Int32.not_lt.mp c1, Int32.not_le.mp c7⟩ hxr
set_option maxHeartbeats 4000000 in
set_option maxRecDepth 100000 in
theorem m_MO_wipe {h : wH} {t : List Nat} {EE SS : Nat → List Nat} (hm : hMO h t EE SS) : PM X M_MO_wipe 0 0 0 [.ref 57] h (fun z h' => z = none ∧ hMO h' [] EE SS ∧ wOff h h' 57 11) := by
  have hm0 := hm; obtain ⟨⟨ap, gd, dp, wr, fi, hx⟩, htx, hE, hA⟩ := hm
  obtain ⟨tf, tp, t60, thf⟩ := id htx
  refine PM.at (pl := [some (.ref 57)]) rfl rfl (by simp [wle, wen]) ?_
  generalize hEN : wEm X 0 0 _ = EN
  refine w_aload_n d_MO_wipe_0 rfl rfl ?_
  refine w_iconst (v := nI 0) d_MO_wipe_1 (by decide) ?_
  refine w_put d_MO_wipe_2 f_MO_43 rfl hx rfl rfl rfl ?_
  refine w_nm (fun h1 e1 => ?_)
  have hx_1 := wS_eq e1 hx
  rw [← hEN]
  refine w_vret d_MO_wipe_5 rfl ?_
  exact ⟨rfl, ⟨⟨ap, gd, dp, wr, fi, hx_1⟩, ⟨tf, by rw [wS_off e1 (by omega)]; exact tp, Nat.zero_le _, fun i x hx9 => by simp at hx9⟩, hE.off (p := 57) (n := 2) (fun k hk => by rw [wS_off e1 (by omega)]) (by omega), hA.off (p := 57) (n := 2) (fun k hk => by rw [wS_off e1 (by omega)]) (by omega)⟩, fun k hk => by rw [wS_off e1 (by omega)]⟩
set_option maxHeartbeats 4000000 in
set_option maxRecDepth 100000 in
theorem m_MO_length {h : wH} {t : List Nat} {EE SS : Nat → List Nat} (hm : hMO h t EE SS) : PM X M_MO_length 0 0 0 [.ref 57] h (fun z h' => z = some (.int (nI t.length)) ∧ h' = h) := by
  have hm0 := hm; obtain ⟨⟨ap, gd, dp, wr, fi, hx⟩, htx, hE, hA⟩ := hm
  refine PM.at (pl := [some (.ref 57)]) rfl rfl (by simp [wle, wen]) ?_
  generalize hEN : wEm X 0 0 _ = EN
  refine w_aload_n d_MO_length_0 rfl rfl ?_
  refine w_get d_MO_length_1 f_MO_43 hx rfl ?_
  rw [← hEN]
  refine w_iret d_MO_length_4 rfl ?_
  exact ⟨rfl, rfl⟩
set_option maxHeartbeats 4000000 in
set_option maxRecDepth 100000 in
theorem m_MO_at {h : wH} {t : List Nat} {EE SS : Nat → List Nat} (hm : hMO h t EE SS) {k : Int32} : PM X M_MO_at 0 0 0 [.ref 57, .int (k)] h (fun z h' => z = some (.int (if k < 0 then -1 else match t[(k).toNatClampNeg]? with | some x => nI x | none => -1)) ∧ h' = h) := by
  have hm0 := hm; obtain ⟨⟨ap, gd, dp, wr, fi, hx⟩, htx, hE, hA⟩ := hm
  obtain ⟨tf, tp, t60, thf⟩ := id htx
  refine PM.at (pl := [some (.ref 57), some (.int (k))]) rfl rfl (by simp [wle, wen]) ?_
  generalize hEN : wEm X 0 0 _ = EN
  refine w_iload_n d_MO_at_0 rfl ?_
  refine w_if_lt (tgt := 12) d_MO_at_1 rfl (fun c1 => ?_) (fun c1 => ?_)
  · refine w_iconst (v := -1) d_MO_at_12 (by decide) ?_
    refine w_goto (tgt := 22) d_MO_at_13 rfl ?_
    rw [← hEN]
    refine w_iret d_MO_at_22 rfl ?_
    first
    | (rw [if_pos c1]; exact ⟨rfl, rfl⟩)
    | (rw [if_neg c1, nI_clamp hj, hy]; exact ⟨rfl, rfl⟩)
    | (rw [if_neg c1, nI_clamp hj, List.getElem?_eq_none (by omega)]; exact ⟨rfl, rfl⟩)
  · obtain ⟨j, hj, rfl⟩ := nI_of c1
    refine w_iload_n d_MO_at_4 rfl ?_
    refine w_aload_n d_MO_at_5 rfl rfl ?_
    refine w_get d_MO_at_6 f_MO_43 hx rfl ?_
    refine w_icmp_lt (tgt := 16) d_MO_at_9 rfl (fun c9 => ?_) (fun c9 => ?_)
    · have c9 : j < t.length := (nI_ltI hj (by omega)).mp c9
      obtain ⟨y, hy⟩ := t_at c9
      refine w_aload_n d_MO_at_16 rfl rfl ?_
      refine w_get d_MO_at_17 f_MO_7 hx rfl ?_
      refine w_iload_n d_MO_at_20 rfl ?_
      refine w_iald d_MO_at_21 tp (vp_in_nI (by omega) (by decide)) ?_
      refine w_topi (y := nI y) (by rw [nI_clamp hj]; exact thf _ _ hy) ?_
      rw [← hEN]
      refine w_iret d_MO_at_22 rfl ?_
      first
      | (rw [if_pos c1]; exact ⟨rfl, rfl⟩)
      | (rw [if_neg c1, nI_clamp hj, hy]; exact ⟨rfl, rfl⟩)
      | (rw [if_neg c1, nI_clamp hj, List.getElem?_eq_none (by omega)]; exact ⟨rfl, rfl⟩)
    · have c9 : ¬ j < t.length := fun z => c9 ((nI_ltI hj (by omega)).mpr z)
      refine w_iconst (v := -1) d_MO_at_12 (by decide) ?_
      refine w_goto (tgt := 22) d_MO_at_13 rfl ?_
      rw [← hEN]
      refine w_iret d_MO_at_22 rfl ?_
      first
      | (rw [if_pos c1]; exact ⟨rfl, rfl⟩)
      | (rw [if_neg c1, nI_clamp hj, hy]; exact ⟨rfl, rfl⟩)
      | (rw [if_neg c1, nI_clamp hj, List.getElem?_eq_none (by omega)]; exact ⟨rfl, rfl⟩)
set_option maxHeartbeats 4000000 in
set_option maxRecDepth 100000 in
theorem m_MO_takeMade {h : wH} {sz ap gd dp wr fi : Int32} (hx : h[57]? = some (.inr (7, [.ref 58, .int (sz), .ref 59, .ref 60, .ref 61, .ref 62, .int (ap), .int (gd), .int (dp), .ref 63, .ref 64, .ref 65, .ref 66, .int (wr), .int (fi), .ref 67]))) {EE SS : Nat → List Nat} (hE : mE h EE SS) {r : Nat} (hr : r < 3) : PM X M_MO_takeMade 1 0 0 [.ref 57, .int (nI r)] h (fun z h' => z = some (.int (bI (decide ((EE 10).length ≤ 200 ∧ (SS 10).length ≤ 8)))) ∧ mE h' (if (EE 10).length ≤ 200 ∧ (SS 10).length ≤ 8 then va_up EE r (EE 10) else EE) (if (EE 10).length ≤ 200 ∧ (SS 10).length ≤ 8 then va_up SS r (SS 10) else SS) ∧ wOff h h' 59 4) := by
  obtain ⟨ef, cf, sf, nf, ha, hb, hc, hd, hs⟩ := id hE
  obtain ⟨s1, s2, s3, s4, s5, s6⟩ := hs 10 (by decide)
  refine PM.at (pl := [some (.ref 57), some (.int (nI r))]) rfl rfl (by simp [wle, wen]) ?_
  generalize hEN : wEm X 0 0 _ = EN
  refine w_aload_n d_MO_takeMade_0 rfl rfl ?_
  refine w_get d_MO_takeMade_1 f_MO_16 hx rfl ?_
  refine w_bipush (v := nI 10) d_MO_takeMade_4 (by decide) ?_
  refine w_iald d_MO_takeMade_6 hb (vp_in_nI (by omega) (by decide)) ?_
  refine w_topi (y := nI (EE 10).length) s1 ?_
  refine w_sipush (v := nI 200) d_MO_takeMade_7 (by decide) ?_
  refine w_icmp_gt (tgt := 25) d_MO_takeMade_10 rfl (fun c10 => ?_) (fun c10 => ?_)
  · have c10 : 200 < (EE 10).length := (nI_ltI (a := 200) (b := (EE 10).length) (by decide) (by omega)).mp c10
    have hno : ¬ ((EE 10).length ≤ 200 ∧ (SS 10).length ≤ 8) := by omega
    refine w_iconst (v := nI 0) d_MO_takeMade_25 (by decide) ?_
    rw [← hEN]
    refine w_zret d_MO_takeMade_26 rfl (by first | exact Or.inl rfl | exact Or.inr rfl) ?_
    rw [decide_eq_false hno, if_neg hno, if_neg hno]
    exact ⟨rfl, hE, wOff.rf⟩
  · have c10 : (EE 10).length ≤ 200 := Nat.not_lt.mp (fun z => c10 ((nI_ltI (a := 200) (b := (EE 10).length) (by decide) (by omega)).mpr z))
    refine w_aload_n d_MO_takeMade_13 rfl rfl ?_
    refine w_get d_MO_takeMade_14 f_MO_23 hx rfl ?_
    refine w_bipush (v := nI 10) d_MO_takeMade_17 (by decide) ?_
    refine w_iald d_MO_takeMade_19 hd (vp_in_nI (by omega) (by decide)) ?_
    refine w_topi (y := nI (SS 10).length) s2 ?_
    refine w_bipush (v := nI 8) d_MO_takeMade_20 (by decide) ?_
    refine w_icmp_le (tgt := 27) d_MO_takeMade_22 rfl (fun c22 => ?_) (fun c22 => ?_)
    · have c22 : (SS 10).length ≤ 8 := (nI_leI (a := (SS 10).length) (b := 8) (by omega) (by decide)).mp c22
      have hyes : (EE 10).length ≤ 200 ∧ (SS 10).length ≤ 8 := ⟨c10, c22⟩
      refine w_aload_n d_MO_takeMade_27 rfl rfl ?_
      refine w_bipush (v := nI 10) d_MO_takeMade_28 (by decide) ?_
      refine w_iload_n d_MO_takeMade_30 rfl ?_
      refine w_callV (as := [.int (nI 10), .int (nI r)]) (st := []) d_MO_takeMade_31 yM_MO_copy l_MO_76 vM_MO_copy hx rfl rfl rfl rfl (m_MO_copy hx hE (f := 10) (t := r) (by decide) (by omega) (by omega)) (by decide) (by decide) (by decide) (by decide) (Nat.le_of_ble_eq_true rfl) ?_
      rintro _ h2 ⟨rfl, hE2, ho2⟩
      refine w_eq (st' := []) rfl ?_
      refine w_iconst (v := nI 1) d_MO_takeMade_34 (by decide) ?_
      rw [← hEN]
      refine w_zret d_MO_takeMade_35 rfl (by first | exact Or.inl rfl | exact Or.inr rfl) ?_
      rw [decide_eq_true hyes, if_pos hyes, if_pos hyes]
      exact ⟨rfl, hE2, ho2⟩
    · have c22 : ¬ (SS 10).length ≤ 8 := fun z => c22 ((nI_leI (a := (SS 10).length) (b := 8) (by omega) (by decide)).mpr z)
      have hno : ¬ ((EE 10).length ≤ 200 ∧ (SS 10).length ≤ 8) := by omega
      refine w_iconst (v := nI 0) d_MO_takeMade_25 (by decide) ?_
      rw [← hEN]
      refine w_zret d_MO_takeMade_26 rfl (by first | exact Or.inl rfl | exact Or.inr rfl) ?_
      rw [decide_eq_false hno, if_neg hno, if_neg hno]
      exact ⟨rfl, hE, wOff.rf⟩
set_option maxHeartbeats 4000000 in
set_option maxRecDepth 100000 in
theorem m_MO_combineG {h : wH} {t : List Nat} {EE SS : Nat → List Nat} (hm : hMO h t EE SS) (hk : mOk t EE SS) {r s how : Nat} (hr : r < 3) (hsr : s < 3) (hh : how ≤ 3) : PM X M_MO_combine 2 0 0 [.ref 57, .int (nI r), .int (nI s), .int (nI how)] h (fun z h' => z = some (.int (bI (decide ((eCmb how (EE r) (EE s)).length ≤ 200 ∧ (mkS how (SS r) (SS s)).length ≤ 8)))) ∧ wOff h h' 57 11 ∧ ∃ EE' SS' : Nat → List Nat, hMO h' t EE' SS' ∧ EE' r = (if (eCmb how (EE r) (EE s)).length ≤ 200 ∧ (mkS how (SS r) (SS s)).length ≤ 8 then eCmb how (EE r) (EE s) else EE r) ∧ SS' r = (if (eCmb how (EE r) (EE s)).length ≤ 200 ∧ (mkS how (SS r) (SS s)).length ≤ 8 then mkS how (SS r) (SS s) else SS r) ∧ ∀ j, j ≠ r → (j < 3 ∨ j = 11) → EE' j = EE j ∧ SS' j = SS j) := by
  have hm0 := hm; obtain ⟨⟨ap, gd, dp, wr, fi, hx⟩, htx, hE, hA⟩ := hm
  obtain ⟨ef, cf, sf, nf, ha, hb, hc, hd, hs⟩ := id hE
  obtain ⟨s1, s2, s3, s4, s5, s6⟩ := hs r (by omega)
  obtain ⟨r1, r2, r3, r4⟩ := hk.2.1 r hr
  have e31 : ∀ y ∈ EE r, y < 2 ^ 31 := fun y hy => by have := r1.2 y hy; omega
  obtain ⟨q1, q2, q3, q4⟩ := hk.2.1 s hsr
  refine PM.at (pl := [some (.ref 57), some (.int (nI r)), some (.int (nI s)), some (.int (nI how))]) rfl rfl (by simp [wle, wen]) ?_
  generalize hEN : wEm X 0 0 _ = EN
  refine w_iload_n d_MO_combine_0 rfl ?_
  refine w_callS (as := [.int (nI r)]) (st := []) d_MO_combine_1 yM_MO_register l_MO_196 sM_MO_register rfl rfl (m_MO_regG (r := r) hr) (by decide) (by decide) (by decide) (by decide) (Nat.le_of_ble_eq_true rfl) ?_
  rintro _ h9_1 ⟨rfl, e9_1⟩
  rw [e9_1]
  refine w_eq (st' := [.int (nI 1)]) rfl ?_
  refine w_if_eq (tgt := 23) d_MO_combine_4 rfl (fun z => absurd z (by decide)) (fun _ => ?_)
  refine w_iload_n d_MO_combine_7 rfl ?_
  refine w_callS (as := [.int (nI s)]) (st := []) d_MO_combine_8 yM_MO_register l_MO_196 sM_MO_register rfl rfl (m_MO_regG (r := s) hsr) (by decide) (by decide) (by decide) (by decide) (Nat.le_of_ble_eq_true rfl) ?_
  rintro _ h9_2 ⟨rfl, e9_2⟩
  rw [e9_2]
  refine w_eq (st' := [.int (nI 1)]) rfl ?_
  refine w_if_eq (tgt := 23) d_MO_combine_11 rfl (fun z => absurd z (by decide)) (fun _ => ?_)
  refine w_iload_n d_MO_combine_14 rfl ?_
  refine w_if_lt (tgt := 23) d_MO_combine_15 rfl (fun z => absurd z (nI_pos (by omega))) (fun _ => ?_)
  refine w_iload_n d_MO_combine_18 rfl ?_
  refine w_iconst (v := nI 3) d_MO_combine_19 (by decide) ?_
  refine w_icmp_le (tgt := 25) d_MO_combine_20 rfl (fun _ => ?_) (fun z => absurd (nI_le hh (by decide)) z)
  refine w_aload_n d_MO_combine_25 rfl rfl ?_
  refine w_iload_n d_MO_combine_26 rfl ?_
  refine w_iload_n d_MO_combine_27 rfl ?_
  refine w_iload_n d_MO_combine_28 rfl ?_
  refine w_callV (as := [.int (nI r), .int (nI s), .int (nI how)]) (st := []) d_MO_combine_29 yM_MO_make l_MO_72 vM_MO_make hx rfl rfl rfl rfl (m_MO_make hx hE (t := r) (b := s) (by omega) (by omega) (by omega) (by omega) hh r1 q1 (by omega) r3 q3 (by omega)) (by decide) (by decide) (by decide) (by decide) (Nat.le_of_ble_eq_true rfl) ?_
  rintro _ h1 ⟨rfl, hE1, ho1⟩
  refine w_eq (st' := []) rfl ?_
  have hx1 := (ho1 57 (by omega)).trans hx
  have tm := m_MO_takeMade (X := X) hx1 hE1 hr
  rw [va_up_self, va_up_self] at tm
  refine w_aload_n d_MO_combine_32 rfl rfl ?_
  refine w_iload_n d_MO_combine_33 rfl ?_
  refine w_callV (as := [.int (nI r)]) (st := []) d_MO_combine_34 yM_MO_takeMade l_MO_223 vM_MO_takeMade hx1 rfl rfl rfl rfl (tm) (by decide) (by decide) (by decide) (by decide) (Nat.le_of_ble_eq_true rfl) ?_
  rintro _ h2 ⟨rfl, hE2, ho2⟩
  refine w_eq (st' := [.int (bI (decide ((eCmb how (EE r) (EE s)).length ≤ 200 ∧ (mkS how (SS r) (SS s)).length ≤ 8)))]) rfl ?_
  rw [← hEN]
  refine w_zret d_MO_combine_37 rfl (bI_01 _) ?_
  refine ⟨rfl, (ho1.tr ho2).wide (by omega) (by omega), _, _, hm0.sets hE2 (ho1.tr ho2), ?_, ?_, fun j hjr hj => ?_⟩
  · by_cases hok : (eCmb how (EE r) (EE s)).length ≤ 200 ∧ (mkS how (SS r) (SS s)).length ≤ 8
    · rw [if_pos hok, if_pos hok, va_up_self]
    · rw [if_neg hok, if_neg hok, va_up_ne _ _ (by omega)]
  · by_cases hok : (eCmb how (EE r) (EE s)).length ≤ 200 ∧ (mkS how (SS r) (SS s)).length ≤ 8
    · rw [if_pos hok, if_pos hok, va_up_self]
    · rw [if_neg hok, if_neg hok, va_up_ne _ _ (by omega)]
  · by_cases hok : (eCmb how (EE r) (EE s)).length ≤ 200 ∧ (mkS how (SS r) (SS s)).length ≤ 8
    · rw [if_pos hok, if_pos hok, va_up_ne _ _ hjr, va_up_ne _ _ (by omega), va_up_ne _ _ hjr, va_up_ne _ _ (by omega)]; exact ⟨rfl, rfl⟩
    · rw [if_neg hok, if_neg hok, va_up_ne _ _ (by omega), va_up_ne _ _ (by omega)]; exact ⟨rfl, rfl⟩
set_option maxHeartbeats 4000000 in
set_option maxRecDepth 100000 in
theorem m_MO_combineB0 {h : wH} {t : List Nat} {EE SS : Nat → List Nat} (hm : hMO h t EE SS) {x y z9 : Int32} (hxr : ¬ (0 ≤ x ∧ x < nI 3)) : PM X M_MO_combine 2 0 0 [.ref 57, .int (x), .int (y), .int (z9)] h (fun z h' => z = some (.int (bI false)) ∧ h' = h) := by
  have hm0 := hm; obtain ⟨⟨ap, gd, dp, wr, fi, hx⟩, htx, hE, hA⟩ := hm
  refine PM.at (pl := [some (.ref 57), some (.int (x)), some (.int (y)), some (.int (z9))]) rfl rfl (by simp [wle, wen]) ?_
  generalize hEN : wEm X 0 0 _ = EN
  refine w_iload_n d_MO_combine_0 rfl ?_
  refine w_callS (as := [.int (x)]) (st := []) d_MO_combine_1 yM_MO_register l_MO_196 sM_MO_register rfl rfl (m_MO_regB (x := x) hxr) (by decide) (by decide) (by decide) (by decide) (Nat.le_of_ble_eq_true rfl) ?_
  rintro _ h9_1 ⟨rfl, e9_1⟩
  rw [e9_1]
  refine w_eq (st' := [.int (nI 0)]) rfl ?_
  refine w_if_eq (tgt := 23) d_MO_combine_4 rfl (fun _ => ?_) (fun z => absurd (by decide) z)
  refine w_iconst (v := nI 0) d_MO_combine_23 (by decide) ?_
  rw [← hEN]
  refine w_zret d_MO_combine_24 rfl (by first | exact Or.inl rfl | exact Or.inr rfl) ?_
  exact ⟨rfl, rfl⟩
set_option maxHeartbeats 4000000 in
set_option maxRecDepth 100000 in
theorem m_MO_combineB1 {h : wH} {t : List Nat} {EE SS : Nat → List Nat} (hm : hMO h t EE SS) {r : Nat} {y z9 : Int32} (hr : r < 3) (hxr : ¬ (0 ≤ y ∧ y < nI 3)) : PM X M_MO_combine 2 0 0 [.ref 57, .int (nI r), .int (y), .int (z9)] h (fun z h' => z = some (.int (bI false)) ∧ h' = h) := by
  have hm0 := hm; obtain ⟨⟨ap, gd, dp, wr, fi, hx⟩, htx, hE, hA⟩ := hm
  refine PM.at (pl := [some (.ref 57), some (.int (nI r)), some (.int (y)), some (.int (z9))]) rfl rfl (by simp [wle, wen]) ?_
  generalize hEN : wEm X 0 0 _ = EN
  refine w_iload_n d_MO_combine_0 rfl ?_
  refine w_callS (as := [.int (nI r)]) (st := []) d_MO_combine_1 yM_MO_register l_MO_196 sM_MO_register rfl rfl (m_MO_regG (r := r) hr) (by decide) (by decide) (by decide) (by decide) (Nat.le_of_ble_eq_true rfl) ?_
  rintro _ h9_1 ⟨rfl, e9_1⟩
  rw [e9_1]
  refine w_eq (st' := [.int (nI 1)]) rfl ?_
  refine w_if_eq (tgt := 23) d_MO_combine_4 rfl (fun z => absurd z (by decide)) (fun _ => ?_)
  refine w_iload_n d_MO_combine_7 rfl ?_
  refine w_callS (as := [.int (y)]) (st := []) d_MO_combine_8 yM_MO_register l_MO_196 sM_MO_register rfl rfl (m_MO_regB (x := y) hxr) (by decide) (by decide) (by decide) (by decide) (Nat.le_of_ble_eq_true rfl) ?_
  rintro _ h9_2 ⟨rfl, e9_2⟩
  rw [e9_2]
  refine w_eq (st' := [.int (nI 0)]) rfl ?_
  refine w_if_eq (tgt := 23) d_MO_combine_11 rfl (fun _ => ?_) (fun z => absurd (by decide) z)
  refine w_iconst (v := nI 0) d_MO_combine_23 (by decide) ?_
  rw [← hEN]
  refine w_zret d_MO_combine_24 rfl (by first | exact Or.inl rfl | exact Or.inr rfl) ?_
  exact ⟨rfl, rfl⟩
set_option maxHeartbeats 4000000 in
set_option maxRecDepth 100000 in
theorem m_MO_combineB3 {h : wH} {t : List Nat} {EE SS : Nat → List Nat} (hm : hMO h t EE SS) {r s : Nat} {z9 : Int32} (hr : r < 3) (hsr : s < 3) (hz : ¬ (0 ≤ z9 ∧ z9 ≤ nI 3)) : PM X M_MO_combine 2 0 0 [.ref 57, .int (nI r), .int (nI s), .int (z9)] h (fun z h' => z = some (.int (bI false)) ∧ h' = h) := by
  have hm0 := hm; obtain ⟨⟨ap, gd, dp, wr, fi, hx⟩, htx, hE, hA⟩ := hm
  refine PM.at (pl := [some (.ref 57), some (.int (nI r)), some (.int (nI s)), some (.int (z9))]) rfl rfl (by simp [wle, wen]) ?_
  generalize hEN : wEm X 0 0 _ = EN
  refine w_iload_n d_MO_combine_0 rfl ?_
  refine w_callS (as := [.int (nI r)]) (st := []) d_MO_combine_1 yM_MO_register l_MO_196 sM_MO_register rfl rfl (m_MO_regG (r := r) hr) (by decide) (by decide) (by decide) (by decide) (Nat.le_of_ble_eq_true rfl) ?_
  rintro _ h9_1 ⟨rfl, e9_1⟩
  rw [e9_1]
  refine w_eq (st' := [.int (nI 1)]) rfl ?_
  refine w_if_eq (tgt := 23) d_MO_combine_4 rfl (fun z => absurd z (by decide)) (fun _ => ?_)
  refine w_iload_n d_MO_combine_7 rfl ?_
  refine w_callS (as := [.int (nI s)]) (st := []) d_MO_combine_8 yM_MO_register l_MO_196 sM_MO_register rfl rfl (m_MO_regG (r := s) hsr) (by decide) (by decide) (by decide) (by decide) (Nat.le_of_ble_eq_true rfl) ?_
  rintro _ h9_2 ⟨rfl, e9_2⟩
  rw [e9_2]
  refine w_eq (st' := [.int (nI 1)]) rfl ?_
  refine w_if_eq (tgt := 23) d_MO_combine_11 rfl (fun z => absurd z (by decide)) (fun _ => ?_)
  refine w_iload_n d_MO_combine_14 rfl ?_
  refine w_if_lt (tgt := 23) d_MO_combine_15 rfl (fun c15 => ?_) (fun c15 => ?_)
  · refine w_iconst (v := nI 0) d_MO_combine_23 (by decide) ?_
    rw [← hEN]
    refine w_zret d_MO_combine_24 rfl (by first | exact Or.inl rfl | exact Or.inr rfl) ?_
    exact ⟨rfl, rfl⟩
  · refine w_iload_n d_MO_combine_18 rfl ?_
    refine w_iconst (v := nI 3) d_MO_combine_19 (by decide) ?_
    refine w_icmp_le (tgt := 25) d_MO_combine_20 rfl (fun c20 => ?_) (fun c20 => ?_)
    · exact absurd ⟨Int32.not_lt.mp c15, c20⟩ hz
    · refine w_iconst (v := nI 0) d_MO_combine_23 (by decide) ?_
      rw [← hEN]
      refine w_zret d_MO_combine_24 rfl (by first | exact Or.inl rfl | exact Or.inr rfl) ?_
      exact ⟨rfl, rfl⟩
set_option maxHeartbeats 4000000 in
set_option maxRecDepth 100000 in
theorem m_MO_turnS {h : wH} {t : List Nat} {EE SS : Nat → List Nat} (hm : hMO h t EE SS) (hk : mOk t EE SS) {r : Nat} (hr : r < 3) (hne : SS r ≠ []) : PM X M_MO_turn 2 0 0 [.ref 57, .int (nI r)] h (fun z h' => z = some (.int (bI false)) ∧ h' = h) := by
  have hm0 := hm; obtain ⟨⟨ap, gd, dp, wr, fi, hx⟩, htx, hE, hA⟩ := hm
  obtain ⟨ef, cf, sf, nf, ha, hb, hc, hd, hs⟩ := id hE
  obtain ⟨s1, s2, s3, s4, s5, s6⟩ := hs r (by omega)
  obtain ⟨r1, r2, r3, r4⟩ := hk.2.1 r hr
  have e31 : ∀ y ∈ EE r, y < 2 ^ 31 := fun y hy => by have := r1.2 y hy; omega
  have hp9 : 0 < (SS r).length := List.length_pos_iff.mpr hne
  refine PM.at (pl := [some (.ref 57), some (.int (nI r))]) rfl rfl (by simp [wle, wen]) ?_
  generalize hEN : wEm X 0 0 _ = EN
  refine w_iload_n d_MO_turn_0 rfl ?_
  refine w_callS (as := [.int (nI r)]) (st := []) d_MO_turn_1 yM_MO_register l_MO_196 sM_MO_register rfl rfl (m_MO_regG (r := r) hr) (by decide) (by decide) (by decide) (by decide) (Nat.le_of_ble_eq_true rfl) ?_
  rintro _ h9_1 ⟨rfl, e9_1⟩
  rw [e9_1]
  refine w_eq (st' := [.int (nI 1)]) rfl ?_
  refine w_if_eq (tgt := 16) d_MO_turn_4 rfl (fun z => absurd z (by decide)) (fun _ => ?_)
  refine w_aload_n d_MO_turn_7 rfl rfl ?_
  refine w_get d_MO_turn_8 f_MO_23 hx rfl ?_
  refine w_iload_n d_MO_turn_11 rfl ?_
  refine w_iald d_MO_turn_12 hd (vp_in_nI (by omega) (by decide)) ?_
  refine w_topi (y := nI (SS r).length) (by rw [nI_clamp (by omega)]; exact s2) ?_
  refine w_if_le (tgt := 18) d_MO_turn_13 rfl (fun z => absurd z (nI_nle hp9 (by omega))) (fun _ => ?_)
  refine w_iconst (v := nI 0) d_MO_turn_16 (by decide) ?_
  rw [← hEN]
  refine w_zret d_MO_turn_17 rfl (by first | exact Or.inl rfl | exact Or.inr rfl) ?_
  exact ⟨rfl, rfl⟩
set_option maxHeartbeats 4000000 in
set_option maxRecDepth 100000 in
theorem m_MO_turnG {h : wH} {t : List Nat} {EE SS : Nat → List Nat} (hm : hMO h t EE SS) (hk : mOk t EE SS) {r : Nat} (hr : r < 3) (hne : SS r = []) : PM X M_MO_turn 2 0 0 [.ref 57, .int (nI r)] h (fun z h' => z = some (.int (bI (decide ((eCmb 3 (EE r) [0, 1114112]).length ≤ 200)))) ∧ wOff h h' 57 11 ∧ ∃ EE' SS' : Nat → List Nat, hMO h' t EE' SS' ∧ EE' r = (if (eCmb 3 (EE r) [0, 1114112]).length ≤ 200 then eCmb 3 (EE r) [0, 1114112] else EE r) ∧ SS' r = (if (eCmb 3 (EE r) [0, 1114112]).length ≤ 200 then ([] : List Nat) else SS r) ∧ ∀ j, j ≠ r → (j < 3 ∨ j = 11) → EE' j = EE j ∧ SS' j = SS j) := by
  have hm0 := hm; obtain ⟨⟨ap, gd, dp, wr, fi, hx⟩, htx, hE, hA⟩ := hm
  obtain ⟨ef, cf, sf, nf, ha, hb, hc, hd, hs⟩ := id hE
  obtain ⟨s1, s2, s3, s4, s5, s6⟩ := hs r (by omega)
  obtain ⟨r1, r2, r3, r4⟩ := hk.2.1 r hr
  have e31 : ∀ y ∈ EE r, y < 2 ^ 31 := fun y hy => by have := r1.2 y hy; omega
  have mk0 := m_MO_make (X := X) hx hE (t := r) (b := 11) (how := 3) (by omega) (by decide) (by omega) (by decide) (by decide) r1 (by rw [hk.2.2.1]; exact eAll_ok) (by rw [hk.2.2.1]; show _ + 2 ≤ 420; omega) r3 (by rw [hk.2.2.2]; intro y hy; cases hy) (by rw [hk.2.2.2]; show _ + 0 ≤ 20; omega)
  rw [hk.2.2.1, hk.2.2.2, hne] at mk0
  rw [hne] at s2
  refine PM.at (pl := [some (.ref 57), some (.int (nI r))]) rfl rfl (by simp [wle, wen]) ?_
  generalize hEN : wEm X 0 0 _ = EN
  refine w_iload_n d_MO_turn_0 rfl ?_
  refine w_callS (as := [.int (nI r)]) (st := []) d_MO_turn_1 yM_MO_register l_MO_196 sM_MO_register rfl rfl (m_MO_regG (r := r) hr) (by decide) (by decide) (by decide) (by decide) (Nat.le_of_ble_eq_true rfl) ?_
  rintro _ h9_1 ⟨rfl, e9_1⟩
  rw [e9_1]
  refine w_eq (st' := [.int (nI 1)]) rfl ?_
  refine w_if_eq (tgt := 16) d_MO_turn_4 rfl (fun z => absurd z (by decide)) (fun _ => ?_)
  refine w_aload_n d_MO_turn_7 rfl rfl ?_
  refine w_get d_MO_turn_8 f_MO_23 hx rfl ?_
  refine w_iload_n d_MO_turn_11 rfl ?_
  refine w_iald d_MO_turn_12 hd (vp_in_nI (by omega) (by decide)) ?_
  refine w_topi (y := nI 0) (by rw [nI_clamp (by omega)]; exact s2) ?_
  refine w_if_le (tgt := 18) d_MO_turn_13 rfl (fun _ => ?_) (fun z => absurd (by decide) z)
  refine w_aload_n d_MO_turn_18 rfl rfl ?_
  refine w_iload_n d_MO_turn_19 rfl ?_
  refine w_bipush (v := nI 11) d_MO_turn_20 (by decide) ?_
  refine w_iconst (v := nI 3) d_MO_turn_22 (by decide) ?_
  refine w_callV (as := [.int (nI r), .int (nI 11), .int (nI 3)]) (st := []) d_MO_turn_23 yM_MO_make l_MO_72 vM_MO_make hx rfl rfl rfl rfl (mk0) (by decide) (by decide) (by decide) (by decide) (Nat.le_of_ble_eq_true rfl) ?_
  rintro _ h1 ⟨rfl, hE1, ho1⟩
  refine w_eq (st' := []) rfl ?_
  have hx1 := (ho1 57 (by omega)).trans hx
  have tm := m_MO_takeMade (X := X) hx1 hE1 hr
  rw [va_up_self, va_up_self] at tm
  have heq : ((eCmb 3 (EE r) [0, 1114112]).length ≤ 200 ∧ (mkS 3 [] []).length ≤ 8) ↔ (eCmb 3 (EE r) [0, 1114112]).length ≤ 200 := ⟨fun z => z.1, fun z => ⟨z, by decide⟩⟩
  simp only [heq] at tm
  rw [show mkS 3 [] [] = ([] : List Nat) from rfl] at tm
  refine w_aload_n d_MO_turn_26 rfl rfl ?_
  refine w_iload_n d_MO_turn_27 rfl ?_
  refine w_callV (as := [.int (nI r)]) (st := []) d_MO_turn_28 yM_MO_takeMade l_MO_223 vM_MO_takeMade hx1 rfl rfl rfl rfl (tm) (by decide) (by decide) (by decide) (by decide) (Nat.le_of_ble_eq_true rfl) ?_
  rintro _ h2 ⟨rfl, hE2, ho2⟩
  refine w_eq (st' := [.int (bI (decide ((eCmb 3 (EE r) [0, 1114112]).length ≤ 200)))]) rfl ?_
  rw [← hEN]
  refine w_zret d_MO_turn_31 rfl (bI_01 _) ?_
  refine ⟨rfl, (ho1.tr ho2).wide (by omega) (by omega), _, _, hm0.sets hE2 (ho1.tr ho2), ?_, ?_, fun j hjr hj => ?_⟩
  · by_cases hok : (eCmb 3 (EE r) [0, 1114112]).length ≤ 200
    · rw [if_pos hok, if_pos hok, va_up_self]
    · rw [if_neg hok, if_neg hok, va_up_ne _ _ (by omega)]
  · by_cases hok : (eCmb 3 (EE r) [0, 1114112]).length ≤ 200
    · rw [if_pos hok, if_pos hok, va_up_self]
    · rw [if_neg hok, if_neg hok, va_up_ne _ _ (by omega)]
  · by_cases hok : (eCmb 3 (EE r) [0, 1114112]).length ≤ 200
    · rw [if_pos hok, if_pos hok, va_up_ne _ _ hjr, va_up_ne _ _ (by omega), va_up_ne _ _ hjr, va_up_ne _ _ (by omega)]; exact ⟨rfl, rfl⟩
    · rw [if_neg hok, if_neg hok, va_up_ne _ _ (by omega), va_up_ne _ _ (by omega)]; exact ⟨rfl, rfl⟩
set_option maxHeartbeats 4000000 in
set_option maxRecDepth 100000 in
theorem m_MO_turnB {h : wH} {t : List Nat} {EE SS : Nat → List Nat} (hm : hMO h t EE SS) {x : Int32} (hxr : ¬ (0 ≤ x ∧ x < nI 3)) : PM X M_MO_turn 2 0 0 [.ref 57, .int (x)] h (fun z h' => z = some (.int (bI false)) ∧ h' = h) := by
  have hm0 := hm; obtain ⟨⟨ap, gd, dp, wr, fi, hx⟩, htx, hE, hA⟩ := hm
  refine PM.at (pl := [some (.ref 57), some (.int (x))]) rfl rfl (by simp [wle, wen]) ?_
  generalize hEN : wEm X 0 0 _ = EN
  refine w_iload_n d_MO_turn_0 rfl ?_
  refine w_callS (as := [.int (x)]) (st := []) d_MO_turn_1 yM_MO_register l_MO_196 sM_MO_register rfl rfl (m_MO_regB (x := x) hxr) (by decide) (by decide) (by decide) (by decide) (Nat.le_of_ble_eq_true rfl) ?_
  rintro _ h9_1 ⟨rfl, e9_1⟩
  rw [e9_1]
  refine w_eq (st' := [.int (nI 0)]) rfl ?_
  refine w_if_eq (tgt := 16) d_MO_turn_4 rfl (fun _ => ?_) (fun z => absurd (by decide) z)
  refine w_iconst (v := nI 0) d_MO_turn_16 (by decide) ?_
  rw [← hEN]
  refine w_zret d_MO_turn_17 rfl (by first | exact Or.inl rfl | exact Or.inr rfl) ?_
  exact ⟨rfl, rfl⟩
end MO4
