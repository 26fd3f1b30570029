/-! the reference's calls, second part: written by wip/gen/mo5.py -/
theorem bI_vn (z : Bool) : vp_nar .boolean (bI z) = bI z := by cases z <;> decide
section MO5
variable {X : wX}
set_option maxHeartbeats 4000000 in
set_option maxRecDepth 100000 in
theorem m_MO_includesG {h : wH} {t : List Nat} {EE SS : Nat → List Nat} (hm : hMO h t EE SS) (hk : mOk t EE SS) {r s : Nat} (hr : r < 3) (hsr : s < 3) : PM X M_MO_includes 2 0 0 [.ref 57, .int (nI r), .int (nI s)] h (fun z h' => z = some (.int (bI (decide (eCmb 2 (EE s) (EE r) = [] ∧ mkS 2 (SS s) (SS r) = [])))) ∧ wOff h h' 57 11 ∧ ∃ EE' SS' : Nat → List Nat, hMO h' t EE' SS' ∧ ∀ j, (j < 3 ∨ j = 11) → EE' j = EE j ∧ SS' j = SS j) := by
  have hm0 := hm; obtain ⟨⟨ap, gd, dp, wr, fi, hx⟩, htx, hE, hA⟩ := hm
  obtain ⟨ef, cf, sf, nf, ha, hb, hc, hd, hs⟩ := id hE
  obtain ⟨s1, s2, s3, s4, s5, s6⟩ := hs r (by omega)
  obtain ⟨r1, r2, r3, r4⟩ := hk.2.1 r hr
  have e31 : ∀ y ∈ EE r, y < 2 ^ 31 := fun y hy => by have := r1.2 y hy; omega
  obtain ⟨q1, q2, q3, q4⟩ := hk.2.1 s hsr
  refine PM.at (pl := [some (.ref 57), some (.int (nI r)), some (.int (nI s))]) rfl rfl (by simp [wle, wen]) ?_
  generalize hEN : wEm X 0 0 _ = EN
  refine w_iload_n d_MO_includes_0 rfl ?_
  refine w_callS (as := [.int (nI r)]) (st := []) d_MO_includes_1 yM_MO_register l_MO_196 sM_MO_register rfl rfl (m_MO_regG (r := r) hr) (by decide) (by decide) (by decide) (by decide) (Nat.le_of_ble_eq_true rfl) ?_
  rintro _ h9_1 ⟨rfl, e9_1⟩
  rw [e9_1]
  refine w_eq (st' := [.int (nI 1)]) rfl ?_
  refine w_if_eq (tgt := 14) d_MO_includes_4 rfl (fun z => absurd z (by decide)) (fun _ => ?_)
  refine w_iload_n d_MO_includes_7 rfl ?_
  refine w_callS (as := [.int (nI s)]) (st := []) d_MO_includes_8 yM_MO_register l_MO_196 sM_MO_register rfl rfl (m_MO_regG (r := s) hsr) (by decide) (by decide) (by decide) (by decide) (Nat.le_of_ble_eq_true rfl) ?_
  rintro _ h9_2 ⟨rfl, e9_2⟩
  rw [e9_2]
  refine w_eq (st' := [.int (nI 1)]) rfl ?_
  refine w_if_ne (tgt := 16) d_MO_includes_11 rfl (fun _ => ?_) (fun z => absurd z (by decide))
  refine w_aload_n d_MO_includes_16 rfl rfl ?_
  refine w_iload_n d_MO_includes_17 rfl ?_
  refine w_iload_n d_MO_includes_18 rfl ?_
  refine w_iconst (v := nI 2) d_MO_includes_19 (by decide) ?_
  refine w_callV (as := [.int (nI s), .int (nI r), .int (nI 2)]) (st := []) d_MO_includes_20 yM_MO_make l_MO_72 vM_MO_make hx rfl rfl rfl rfl (m_MO_make hx hE (t := s) (b := r) (how := 2) (by omega) (by omega) (by omega) (by omega) (by decide) q1 r1 (by omega) q3 r3 (by omega)) (by decide) (by decide) (by decide) (by decide) (Nat.le_of_ble_eq_true rfl) ?_
  rintro _ h1 ⟨rfl, hE1, ho1⟩
  refine w_eq (st' := []) rfl ?_
  have hx1 := (ho1 57 (by omega)).trans hx
  obtain ⟨jef, jcf, jsf, jnf, ja, jb, jc, jd, js⟩ := id hE1
  obtain ⟨j1, j2, j3, j4, j5, j6⟩ := js 10 (by decide)
  rw [va_up_self] at j1 j2 j3 j4
  have hfin : ∃ EE' SS' : Nat → List Nat, hMO h1 t EE' SS' ∧ ∀ j, (j < 3 ∨ j = 11) → EE' j = EE j ∧ SS' j = SS j := ⟨_, _, hm0.sets hE1 ho1, fun j hj => ⟨va_up_ne _ _ (by omega), va_up_ne _ _ (by omega)⟩⟩
  refine w_aload_n d_MO_includes_23 rfl rfl ?_
  refine w_get d_MO_includes_24 f_MO_16 hx1 rfl ?_
  refine w_bipush (v := nI 10) d_MO_includes_27 (by decide) ?_
  refine w_iald d_MO_includes_29 jb (vp_in_nI (by omega) (by decide)) ?_
  refine w_topi (y := nI (eCmb 2 (EE s) (EE r)).length) j1 ?_
  refine w_if_ne (tgt := 47) d_MO_includes_30 rfl (fun c30 => ?_) (fun c30 => ?_)
  · have c30 : ¬ eCmb 2 (EE s) (EE r) = [] := fun z => by rw [z] at c30; exact c30 rfl
    refine w_iconst (v := nI 0) d_MO_includes_47 (by decide) ?_
    rw [← hEN]
    refine w_zret d_MO_includes_48 rfl (by first | exact Or.inl rfl | exact Or.inr rfl) ?_
    refine ⟨?_, ho1.wide (by omega) (by omega), hfin⟩
    first
    | (rw [decide_eq_true ⟨c30, c40⟩]; rfl)
    | (rw [decide_eq_false (fun z => c30 z.1)]; rfl)
    | (rw [decide_eq_false (fun z => c40 z.2)]; rfl)
  · have c30 : eCmb 2 (EE s) (EE r) = [] := List.length_eq_zero_iff.mp ((nI_eq (a := (eCmb 2 (EE s) (EE r)).length) (b := 0) (by omega) (by decide)).mp c30)
    refine w_aload_n d_MO_includes_33 rfl rfl ?_
    refine w_get d_MO_includes_34 f_MO_23 hx1 rfl ?_
    refine w_bipush (v := nI 10) d_MO_includes_37 (by decide) ?_
    refine w_iald d_MO_includes_39 jd (vp_in_nI (by omega) (by decide)) ?_
    refine w_topi (y := nI (mkS 2 (SS s) (SS r)).length) j2 ?_
    refine w_if_ne (tgt := 47) d_MO_includes_40 rfl (fun c40 => ?_) (fun c40 => ?_)
    · have c40 : ¬ mkS 2 (SS s) (SS r) = [] := fun z => by rw [z] at c40; exact c40 rfl
      refine w_iconst (v := nI 0) d_MO_includes_47 (by decide) ?_
      rw [← hEN]
      refine w_zret d_MO_includes_48 rfl (by first | exact Or.inl rfl | exact Or.inr rfl) ?_
      refine ⟨?_, ho1.wide (by omega) (by omega), hfin⟩
      first
      | (rw [decide_eq_true ⟨c30, c40⟩]; rfl)
      | (rw [decide_eq_false (fun z => c30 z.1)]; rfl)
      | (rw [decide_eq_false (fun z => c40 z.2)]; rfl)
    · have c40 : mkS 2 (SS s) (SS r) = [] := List.length_eq_zero_iff.mp ((nI_eq (a := (mkS 2 (SS s) (SS r)).length) (b := 0) (by omega) (by decide)).mp c40)
      refine w_iconst (v := nI 1) d_MO_includes_43 (by decide) ?_
      refine w_goto (tgt := 48) d_MO_includes_44 rfl ?_
      rw [← hEN]
      refine w_zret d_MO_includes_48 rfl (by first | exact Or.inl rfl | exact Or.inr rfl) ?_
      refine ⟨?_, ho1.wide (by omega) (by omega), hfin⟩
      first
      | (rw [decide_eq_true ⟨c30, c40⟩]; rfl)
      | (rw [decide_eq_false (fun z => c30 z.1)]; rfl)
      | (rw [decide_eq_false (fun z => c40 z.2)]; rfl)
set_option maxHeartbeats 4000000 in
set_option maxRecDepth 100000 in
theorem m_MO_includesB0 {h : wH} {t : List Nat} {EE SS : Nat → List Nat} (hm : hMO h t EE SS) {x y : Int32} (hxr : ¬ (0 ≤ x ∧ x < nI 3)) : PM X M_MO_includes 2 0 0 [.ref 57, .int (x), .int (y)] h (fun z h' => z = some (.int (bI false)) ∧ h' = h) := by
  have hm0 := hm; obtain ⟨⟨ap, gd, dp, wr, fi, hx⟩, htx, hE, hA⟩ := hm
  refine PM.at (pl := [some (.ref 57), some (.int (x)), some (.int (y))]) rfl rfl (by simp [wle, wen]) ?_
  generalize hEN : wEm X 0 0 _ = EN
  refine w_iload_n d_MO_includes_0 rfl ?_
  refine w_callS (as := [.int (x)]) (st := []) d_MO_includes_1 yM_MO_register l_MO_196 sM_MO_register rfl rfl (m_MO_regB (x := x) hxr) (by decide) (by decide) (by decide) (by decide) (Nat.le_of_ble_eq_true rfl) ?_
  rintro _ h9_1 ⟨rfl, e9_1⟩
  rw [e9_1]
  refine w_eq (st' := [.int (nI 0)]) rfl ?_
  refine w_if_eq (tgt := 14) d_MO_includes_4 rfl (fun _ => ?_) (fun z => absurd (by decide) z)
  refine w_iconst (v := nI 0) d_MO_includes_14 (by decide) ?_
  rw [← hEN]
  refine w_zret d_MO_includes_15 rfl (by first | exact Or.inl rfl | exact Or.inr rfl) ?_
  exact ⟨rfl, rfl⟩
set_option maxHeartbeats 4000000 in
set_option maxRecDepth 100000 in
theorem m_MO_includesB1 {h : wH} {t : List Nat} {EE SS : Nat → List Nat} (hm : hMO h t EE SS) {r : Nat} {y : Int32} (hr : r < 3) (hxr : ¬ (0 ≤ y ∧ y < nI 3)) : PM X M_MO_includes 2 0 0 [.ref 57, .int (nI r), .int (y)] h (fun z h' => z = some (.int (bI false)) ∧ h' = h) := by
  have hm0 := hm; obtain ⟨⟨ap, gd, dp, wr, fi, hx⟩, htx, hE, hA⟩ := hm
  refine PM.at (pl := [some (.ref 57), some (.int (nI r)), some (.int (y))]) rfl rfl (by simp [wle, wen]) ?_
  generalize hEN : wEm X 0 0 _ = EN
  refine w_iload_n d_MO_includes_0 rfl ?_
  refine w_callS (as := [.int (nI r)]) (st := []) d_MO_includes_1 yM_MO_register l_MO_196 sM_MO_register rfl rfl (m_MO_regG (r := r) hr) (by decide) (by decide) (by decide) (by decide) (Nat.le_of_ble_eq_true rfl) ?_
  rintro _ h9_1 ⟨rfl, e9_1⟩
  rw [e9_1]
  refine w_eq (st' := [.int (nI 1)]) rfl ?_
  refine w_if_eq (tgt := 14) d_MO_includes_4 rfl (fun z => absurd z (by decide)) (fun _ => ?_)
  refine w_iload_n d_MO_includes_7 rfl ?_
  refine w_callS (as := [.int (y)]) (st := []) d_MO_includes_8 yM_MO_register l_MO_196 sM_MO_register rfl rfl (m_MO_regB (x := y) hxr) (by decide) (by decide) (by decide) (by decide) (Nat.le_of_ble_eq_true rfl) ?_
  rintro _ h9_2 ⟨rfl, e9_2⟩
  rw [e9_2]
  refine w_eq (st' := [.int (nI 0)]) rfl ?_
  refine w_if_ne (tgt := 16) d_MO_includes_11 rfl (fun z => absurd (by decide) z) (fun _ => ?_)
  refine w_iconst (v := nI 0) d_MO_includes_14 (by decide) ?_
  rw [← hEN]
  refine w_zret d_MO_includes_15 rfl (by first | exact Or.inl rfl | exact Or.inr rfl) ?_
  exact ⟨rfl, rfl⟩
set_option maxHeartbeats 4000000 in
set_option maxRecDepth 100000 in
theorem m_MO_containsG {h : wH} {t : List Nat} {EE SS : Nat → List Nat} (hm : hMO h t EE SS) (hk : mOk t EE SS) {r c : Nat} (hr : r < 3) (hc0 : c < 1114112) : PM X M_MO_contains 1 0 0 [.ref 57, .int (nI r), .int (nI c)] h (fun z h' => z = some (.int (bI (eMem (EE r) c))) ∧ h' = h) := by
  have hm0 := hm; obtain ⟨⟨ap, gd, dp, wr, fi, hx⟩, htx, hE, hA⟩ := hm
  obtain ⟨ef, cf, sf, nf, ha, hb, hc, hd, hs⟩ := id hE
  obtain ⟨s1, s2, s3, s4, s5, s6⟩ := hs r (by omega)
  obtain ⟨r1, r2, r3, r4⟩ := hk.2.1 r hr
  have e31 : ∀ y ∈ EE r, y < 2 ^ 31 := fun y hy => by have := r1.2 y hy; omega
  refine PM.at (pl := [some (.ref 57), some (.int (nI r)), some (.int (nI c))]) rfl rfl (by simp [wle, wen]) ?_
  generalize hEN : wEm X 0 0 _ = EN
  refine w_iload_n d_MO_contains_0 rfl ?_
  refine w_callS (as := [.int (nI r)]) (st := []) d_MO_contains_1 yM_MO_register l_MO_196 sM_MO_register rfl rfl (m_MO_regG (r := r) hr) (by decide) (by decide) (by decide) (by decide) (Nat.le_of_ble_eq_true rfl) ?_
  rintro _ h9_1 ⟨rfl, e9_1⟩
  rw [e9_1]
  refine w_eq (st' := [.int (nI 1)]) rfl ?_
  refine w_if_eq (tgt := 30) d_MO_contains_4 rfl (fun z => absurd z (by decide)) (fun _ => ?_)
  refine w_iload_n d_MO_contains_7 rfl ?_
  refine w_if_lt (tgt := 30) d_MO_contains_8 rfl (fun z => absurd z (nI_pos (by omega))) (fun _ => ?_)
  refine w_iload_n d_MO_contains_11 rfl ?_
  refine w_ldc (v := nI 1114112) d_MO_contains_12 k_MO_42 ?_
  refine w_icmp_ge (tgt := 30) d_MO_contains_14 rfl (fun z => absurd z (nI_ge hc0 (by decide))) (fun _ => ?_)
  refine w_aload_n d_MO_contains_17 rfl rfl ?_
  refine w_iload_n d_MO_contains_18 rfl ?_
  refine w_iload_n d_MO_contains_19 rfl ?_
  refine w_callV (as := [.int (nI r), .int (nI c)]) (st := []) d_MO_contains_20 yM_MO_member l_MO_56 vM_MO_member hx rfl rfl rfl rfl (m_MO_member hx hE (t := r) (by omega) (by omega) e31) (by decide) (by decide) (by decide) (by decide) (Nat.le_of_ble_eq_true rfl) ?_
  rintro _ h9_2 ⟨rfl, e9_2⟩
  rw [e9_2]
  refine w_eq (st' := [.int (bI (eMem (EE r) c))]) rfl ?_
  refine w_if_eq (tgt := 30) d_MO_contains_23 rfl (fun c23 => ?_) (fun c23 => ?_)
  · refine w_iconst (v := nI 0) d_MO_contains_30 (by decide) ?_
    rw [← hEN]
    refine w_zret d_MO_contains_31 rfl (by first | exact Or.inl rfl | exact Or.inr rfl) ?_
    first | (rw [bI_f c23]; exact ⟨rfl, rfl⟩) | (rw [bI_t c23]; exact ⟨rfl, rfl⟩)
  · refine w_iconst (v := nI 1) d_MO_contains_26 (by decide) ?_
    refine w_goto (tgt := 31) d_MO_contains_27 rfl ?_
    rw [← hEN]
    refine w_zret d_MO_contains_31 rfl (by first | exact Or.inl rfl | exact Or.inr rfl) ?_
    first | (rw [bI_f c23]; exact ⟨rfl, rfl⟩) | (rw [bI_t c23]; exact ⟨rfl, rfl⟩)
set_option maxHeartbeats 4000000 in
set_option maxRecDepth 100000 in
theorem m_MO_containsB {h : wH} {t : List Nat} {EE SS : Nat → List Nat} (hm : hMO h t EE SS) {x y : Int32} (hxr : ¬ (0 ≤ x ∧ x < nI 3)) : PM X M_MO_contains 1 0 0 [.ref 57, .int (x), .int (y)] h (fun z h' => z = some (.int (bI false)) ∧ h' = h) := by
  have hm0 := hm; obtain ⟨⟨ap, gd, dp, wr, fi, hx⟩, htx, hE, hA⟩ := hm
  refine PM.at (pl := [some (.ref 57), some (.int (x)), some (.int (y))]) rfl rfl (by simp [wle, wen]) ?_
  generalize hEN : wEm X 0 0 _ = EN
  refine w_iload_n d_MO_contains_0 rfl ?_
  refine w_callS (as := [.int (x)]) (st := []) d_MO_contains_1 yM_MO_register l_MO_196 sM_MO_register rfl rfl (m_MO_regB (x := x) hxr) (by decide) (by decide) (by decide) (by decide) (Nat.le_of_ble_eq_true rfl) ?_
  rintro _ h9_1 ⟨rfl, e9_1⟩
  rw [e9_1]
  refine w_eq (st' := [.int (nI 0)]) rfl ?_
  refine w_if_eq (tgt := 30) d_MO_contains_4 rfl (fun _ => ?_) (fun z => absurd (by decide) z)
  refine w_iconst (v := nI 0) d_MO_contains_30 (by decide) ?_
  rw [← hEN]
  refine w_zret d_MO_contains_31 rfl (by first | exact Or.inl rfl | exact Or.inr rfl) ?_
  exact ⟨rfl, rfl⟩
set_option maxHeartbeats 4000000 in
set_option maxRecDepth 100000 in
theorem m_MO_containsC {h : wH} {t : List Nat} {EE SS : Nat → List Nat} (hm : hMO h t EE SS) {r : Nat} {y : Int32} (hr : r < 3) (hxr : ¬ (0 ≤ y ∧ y < nI 1114112)) : PM X M_MO_contains 1 0 0 [.ref 57, .int (nI r), .int (y)] h (fun z h' => z = some (.int (bI false)) ∧ h' = h) := by
  have hm0 := hm; obtain ⟨⟨ap, gd, dp, wr, fi, hx⟩, htx, hE, hA⟩ := hm
  refine PM.at (pl := [some (.ref 57), some (.int (nI r)), some (.int (y))]) rfl rfl (by simp [wle, wen]) ?_
  generalize hEN : wEm X 0 0 _ = EN
  refine w_iload_n d_MO_contains_0 rfl ?_
  refine w_callS (as := [.int (nI r)]) (st := []) d_MO_contains_1 yM_MO_register l_MO_196 sM_MO_register rfl rfl (m_MO_regG (r := r) hr) (by decide) (by decide) (by decide) (by decide) (Nat.le_of_ble_eq_true rfl) ?_
  rintro _ h9_1 ⟨rfl, e9_1⟩
  rw [e9_1]
  refine w_eq (st' := [.int (nI 1)]) rfl ?_
  refine w_if_eq (tgt := 30) d_MO_contains_4 rfl (fun z => absurd z (by decide)) (fun _ => ?_)
  refine w_iload_n d_MO_contains_7 rfl ?_
  refine w_if_lt (tgt := 30) d_MO_contains_8 rfl (fun c8 => ?_) (fun c8 => ?_)
  · refine w_iconst (v := nI 0) d_MO_contains_30 (by decide) ?_
    rw [← hEN]
    refine w_zret d_MO_contains_31 rfl (by first | exact Or.inl rfl | exact Or.inr rfl) ?_
    exact ⟨rfl, rfl⟩
  · refine w_iload_n d_MO_contains_11 rfl ?_
    refine w_ldc (v := nI 1114112) d_MO_contains_12 k_MO_42 ?_
    refine w_icmp_ge (tgt := 30) d_MO_contains_14 rfl (fun c14 => ?_) (fun c14 => ?_)
    · refine w_iconst (v := nI 0) d_MO_contains_30 (by decide) ?_
      rw [← hEN]
      refine w_zret d_MO_contains_31 rfl (by first | exact Or.inl rfl | exact Or.inr rfl) ?_
      exact ⟨rfl, rfl⟩
    · exact absurd ⟨Int32.not_lt.mp c8, Int32.not_le.mp c14⟩ hxr
set_option maxHeartbeats 4000000 in
set_option maxRecDepth 100000 in
theorem m_MO_begins1 {h : wH} {t : List Nat} {EE SS : Nat → List Nat} (hm : hMO h t EE SS) (hk : mOk t EE SS) {r k : Nat} (hr : r < 3) {a : Nat} (ha9 : t[k]? = some a) : PM X M_MO_begins 1 0 0 [.ref 57, .int (nI r), .int (nI k), .int (nI 1)] h (fun z h' => z = some (.int (bI (eMem (EE r) a))) ∧ h' = h) := by
  have hm0 := hm; obtain ⟨⟨ap, gd, dp, wr, fi, hx⟩, htx, hE, hA⟩ := hm
  obtain ⟨ef, cf, sf, nf, ha, hb, hc, hd, hs⟩ := id hE
  obtain ⟨tf, tp, t60, thf⟩ := id htx
  obtain ⟨s1, s2, s3, s4, s5, s6⟩ := hs r (by omega)
  obtain ⟨r1, r2, r3, r4⟩ := hk.2.1 r hr
  have e31 : ∀ y ∈ EE r, y < 2 ^ 31 := fun y hy => by have := r1.2 y hy; omega
  have al := hk.1 a (List.mem_of_getElem? ha9)
  have hlen : k + 1 ≤ t.length := by have := (List.getElem?_eq_some_iff.mp ha9).1; omega
  refine PM.at (pl := [some (.ref 57), some (.int (nI r)), some (.int (nI k)), some (.int (nI 1))]) rfl rfl (by simp [wle, wen]) ?_
  generalize hEN : wEm X 0 0 _ = EN
  refine w_iload_n d_MO_begins_0 rfl ?_
  refine w_iload_n d_MO_begins_1 rfl ?_
  refine w_iadd d_MO_begins_2 ?_
  refine w_topi (y := nI (k + 1)) (nI_add _ _) ?_
  refine w_aload_n d_MO_begins_3 rfl rfl ?_
  refine w_get d_MO_begins_4 f_MO_43 hx rfl ?_
  refine w_icmp_le (tgt := 12) d_MO_begins_7 rfl (fun _ => ?_) (fun z => absurd (nI_le hlen (by omega)) z)
  refine w_iload_n d_MO_begins_12 rfl ?_
  refine w_iconst (v := nI 1) d_MO_begins_13 (by decide) ?_
  refine w_icmp_ne (tgt := 29) d_MO_begins_14 rfl (fun z => absurd (by decide) z) (fun _ => ?_)
  refine w_aload_n d_MO_begins_17 rfl rfl ?_
  refine w_iload_n d_MO_begins_18 rfl ?_
  refine w_aload_n d_MO_begins_19 rfl rfl ?_
  refine w_get d_MO_begins_20 f_MO_7 hx rfl ?_
  refine w_iload_n d_MO_begins_23 rfl ?_
  refine w_iald d_MO_begins_24 tp (vp_in_nI (by omega) (by decide)) ?_
  refine w_topi (y := nI a) (by rw [nI_clamp (by omega)]; exact thf _ _ ha9) ?_
  refine w_callV (as := [.int (nI r), .int (nI a)]) (st := []) d_MO_begins_25 yM_MO_member l_MO_56 vM_MO_member hx rfl rfl rfl rfl (m_MO_member hx hE (t := r) (by omega) (by omega) e31) (by decide) (by decide) (by decide) (by decide) (Nat.le_of_ble_eq_true rfl) ?_
  rintro _ h9_1 ⟨rfl, e9_1⟩
  rw [e9_1]
  refine w_eq (st' := [.int (bI (eMem (EE r) a))]) rfl ?_
  rw [← hEN]
  refine w_zret d_MO_begins_28 rfl (bI_01 _) ?_
  exact ⟨rfl, rfl⟩
set_option maxHeartbeats 4000000 in
set_option maxRecDepth 100000 in
theorem m_MO_begins2 {h : wH} {t : List Nat} {EE SS : Nat → List Nat} (hm : hMO h t EE SS) (hk : mOk t EE SS) {r k : Nat} (hr : r < 3) {a : Nat} (ha9 : t[k]? = some a) {b : Nat} (hb9 : t[k + 1]? = some b) : PM X M_MO_begins 1 0 0 [.ref 57, .int (nI r), .int (nI k), .int (nI 2)] h (fun z h' => z = some (.int (bI (decide (kOf a b 0 ∈ SS r)))) ∧ h' = h) := by
  have hm0 := hm; obtain ⟨⟨ap, gd, dp, wr, fi, hx⟩, htx, hE, hA⟩ := hm
  obtain ⟨ef, cf, sf, nf, ha, hb, hc, hd, hs⟩ := id hE
  obtain ⟨tf, tp, t60, thf⟩ := id htx
  obtain ⟨s1, s2, s3, s4, s5, s6⟩ := hs r (by omega)
  obtain ⟨r1, r2, r3, r4⟩ := hk.2.1 r hr
  have e31 : ∀ y ∈ EE r, y < 2 ^ 31 := fun y hy => by have := r1.2 y hy; omega
  have al := hk.1 a (List.mem_of_getElem? ha9)
  have bl := hk.1 b (List.mem_of_getElem? hb9)
  have hlen : k + 2 ≤ t.length := by have := (List.getElem?_eq_some_iff.mp hb9).1; omega
  refine PM.at (pl := [some (.ref 57), some (.int (nI r)), some (.int (nI k)), some (.int (nI 2))]) rfl rfl (by simp [wle, wen]) ?_
  generalize hEN : wEm X 0 0 _ = EN
  refine w_iload_n d_MO_begins_0 rfl ?_
  refine w_iload_n d_MO_begins_1 rfl ?_
  refine w_iadd d_MO_begins_2 ?_
  refine w_topi (y := nI (k + 2)) (nI_add _ _) ?_
  refine w_aload_n d_MO_begins_3 rfl rfl ?_
  refine w_get d_MO_begins_4 f_MO_43 hx rfl ?_
  refine w_icmp_le (tgt := 12) d_MO_begins_7 rfl (fun _ => ?_) (fun z => absurd (nI_le hlen (by omega)) z)
  refine w_iload_n d_MO_begins_12 rfl ?_
  refine w_iconst (v := nI 1) d_MO_begins_13 (by decide) ?_
  refine w_icmp_ne (tgt := 29) d_MO_begins_14 rfl (fun _ => ?_) (fun z => absurd z (by decide))
  refine w_aload_n d_MO_begins_29 rfl rfl ?_
  refine w_iload_n d_MO_begins_30 rfl ?_
  refine w_aload_n d_MO_begins_31 rfl rfl ?_
  refine w_get d_MO_begins_32 f_MO_7 hx rfl ?_
  refine w_iload_n d_MO_begins_35 rfl ?_
  refine w_iald d_MO_begins_36 tp (vp_in_nI (by omega) (by decide)) ?_
  refine w_topi (y := nI a) (by rw [nI_clamp (by omega)]; exact thf _ _ ha9) ?_
  refine w_aload_n d_MO_begins_37 rfl rfl ?_
  refine w_get d_MO_begins_38 f_MO_7 hx rfl ?_
  refine w_iload_n d_MO_begins_41 rfl ?_
  refine w_iconst (v := nI 1) d_MO_begins_42 (by decide) ?_
  refine w_iadd d_MO_begins_43 ?_
  refine w_topi (y := nI (k + 1)) (nI_add _ _) ?_
  refine w_iald d_MO_begins_44 tp (vp_in_nI (by omega) (by decide)) ?_
  refine w_topi (y := nI b) (by rw [nI_clamp (by omega)]; exact thf _ _ hb9) ?_
  refine w_iload_n d_MO_begins_45 rfl ?_
  refine w_iconst (v := nI 3) d_MO_begins_46 (by decide) ?_
  refine w_icmp_ne (tgt := 61) d_MO_begins_47 rfl (fun _ => ?_) (fun z => absurd z (by decide))
  refine w_iconst (v := nI 0) d_MO_begins_61 (by decide) ?_
  refine w_iload_n d_MO_begins_62 rfl ?_
  refine w_iconst (v := nI 3) d_MO_begins_63 (by decide) ?_
  refine w_icmp_ne (tgt := 71) d_MO_begins_64 rfl (fun _ => ?_) (fun z => absurd z (by decide))
  refine w_iconst (v := nI 0) d_MO_begins_71 (by decide) ?_
  refine w_callS (as := [.int (nI a), .int (nI b), .int (nI 0), .int (nI 0)]) (st := [.int (nI r), .ref 57]) d_MO_begins_72 yM_MO_stringOf l_MO_168 sM_MO_stringOf rfl rfl (m_MO_strOf2 al bl) (by decide) (by decide) (by decide) (by decide) (Nat.le_of_ble_eq_true rfl) ?_
  rintro _ h9_1 ⟨rfl, e9_1⟩
  rw [e9_1]
  refine w_eq (st' := [.long (lN (kOf a b 0 - 4398048608256)), .int (nI r), .ref 57]) rfl ?_
  refine w_callV (as := [.int (nI r), .long (lN (kOf a b 0 - 4398048608256))]) (st := []) d_MO_begins_75 yM_MO_stringMember l_MO_64 vM_MO_stringMember hx rfl rfl rfl rfl (m_MO_strMember hx hE (t := r) (by omega) ⟨a, b, 0, al, bl, by omega, rfl⟩ r3) (by decide) (by decide) (by decide) (by decide) (Nat.le_of_ble_eq_true rfl) ?_
  rintro _ h9_2 ⟨rfl, e9_2⟩
  rw [e9_2]
  refine w_eq (st' := [.int (bI (decide (kOf a b 0 ∈ SS r)))]) rfl ?_
  rw [← hEN]
  refine w_zret d_MO_begins_78 rfl (bI_01 _) ?_
  exact ⟨rfl, rfl⟩
set_option maxHeartbeats 4000000 in
set_option maxRecDepth 100000 in
theorem m_MO_begins3 {h : wH} {t : List Nat} {EE SS : Nat → List Nat} (hm : hMO h t EE SS) (hk : mOk t EE SS) {r k : Nat} (hr : r < 3) {a : Nat} (ha9 : t[k]? = some a) {b : Nat} (hb9 : t[k + 1]? = some b) {c : Nat} (hc9 : t[k + 2]? = some c) : PM X M_MO_begins 1 0 0 [.ref 57, .int (nI r), .int (nI k), .int (nI 3)] h (fun z h' => z = some (.int (bI (decide (kOf a b (c + 1) ∈ SS r)))) ∧ h' = h) := by
  have hm0 := hm; obtain ⟨⟨ap, gd, dp, wr, fi, hx⟩, htx, hE, hA⟩ := hm
  obtain ⟨ef, cf, sf, nf, ha, hb, hc, hd, hs⟩ := id hE
  obtain ⟨tf, tp, t60, thf⟩ := id htx
  obtain ⟨s1, s2, s3, s4, s5, s6⟩ := hs r (by omega)
  obtain ⟨r1, r2, r3, r4⟩ := hk.2.1 r hr
  have e31 : ∀ y ∈ EE r, y < 2 ^ 31 := fun y hy => by have := r1.2 y hy; omega
  have al := hk.1 a (List.mem_of_getElem? ha9)
  have bl := hk.1 b (List.mem_of_getElem? hb9)
  have cl := hk.1 c (List.mem_of_getElem? hc9)
  have hlen : k + 3 ≤ t.length := by have := (List.getElem?_eq_some_iff.mp hc9).1; omega
  refine PM.at (pl := [some (.ref 57), some (.int (nI r)), some (.int (nI k)), some (.int (nI 3))]) rfl rfl (by simp [wle, wen]) ?_
  generalize hEN : wEm X 0 0 _ = EN
  refine w_iload_n d_MO_begins_0 rfl ?_
  refine w_iload_n d_MO_begins_1 rfl ?_
  refine w_iadd d_MO_begins_2 ?_
  refine w_topi (y := nI (k + 3)) (nI_add _ _) ?_
  refine w_aload_n d_MO_begins_3 rfl rfl ?_
  refine w_get d_MO_begins_4 f_MO_43 hx rfl ?_
  refine w_icmp_le (tgt := 12) d_MO_begins_7 rfl (fun _ => ?_) (fun z => absurd (nI_le hlen (by omega)) z)
  refine w_iload_n d_MO_begins_12 rfl ?_
  refine w_iconst (v := nI 1) d_MO_begins_13 (by decide) ?_
  refine w_icmp_ne (tgt := 29) d_MO_begins_14 rfl (fun _ => ?_) (fun z => absurd z (by decide))
  refine w_aload_n d_MO_begins_29 rfl rfl ?_
  refine w_iload_n d_MO_begins_30 rfl ?_
  refine w_aload_n d_MO_begins_31 rfl rfl ?_
  refine w_get d_MO_begins_32 f_MO_7 hx rfl ?_
  refine w_iload_n d_MO_begins_35 rfl ?_
  refine w_iald d_MO_begins_36 tp (vp_in_nI (by omega) (by decide)) ?_
  refine w_topi (y := nI a) (by rw [nI_clamp (by omega)]; exact thf _ _ ha9) ?_
  refine w_aload_n d_MO_begins_37 rfl rfl ?_
  refine w_get d_MO_begins_38 f_MO_7 hx rfl ?_
  refine w_iload_n d_MO_begins_41 rfl ?_
  refine w_iconst (v := nI 1) d_MO_begins_42 (by decide) ?_
  refine w_iadd d_MO_begins_43 ?_
  refine w_topi (y := nI (k + 1)) (nI_add _ _) ?_
  refine w_iald d_MO_begins_44 tp (vp_in_nI (by omega) (by decide)) ?_
  refine w_topi (y := nI b) (by rw [nI_clamp (by omega)]; exact thf _ _ hb9) ?_
  refine w_iload_n d_MO_begins_45 rfl ?_
  refine w_iconst (v := nI 3) d_MO_begins_46 (by decide) ?_
  refine w_icmp_ne (tgt := 61) d_MO_begins_47 rfl (fun z => absurd (by decide) z) (fun _ => ?_)
  refine w_aload_n d_MO_begins_50 rfl rfl ?_
  refine w_get d_MO_begins_51 f_MO_7 hx rfl ?_
  refine w_iload_n d_MO_begins_54 rfl ?_
  refine w_iconst (v := nI 2) d_MO_begins_55 (by decide) ?_
  refine w_iadd d_MO_begins_56 ?_
  refine w_topi (y := nI (k + 2)) (nI_add _ _) ?_
  refine w_iald d_MO_begins_57 tp (vp_in_nI (by omega) (by decide)) ?_
  refine w_topi (y := nI c) (by rw [nI_clamp (by omega)]; exact thf _ _ hc9) ?_
  refine w_goto (tgt := 62) d_MO_begins_58 rfl ?_
  refine w_iload_n d_MO_begins_62 rfl ?_
  refine w_iconst (v := nI 3) d_MO_begins_63 (by decide) ?_
  refine w_icmp_ne (tgt := 71) d_MO_begins_64 rfl (fun z => absurd (by decide) z) (fun _ => ?_)
  refine w_iconst (v := nI 1) d_MO_begins_67 (by decide) ?_
  refine w_goto (tgt := 72) d_MO_begins_68 rfl ?_
  refine w_callS (as := [.int (nI a), .int (nI b), .int (nI c), .int (nI 1)]) (st := [.int (nI r), .ref 57]) d_MO_begins_72 yM_MO_stringOf l_MO_168 sM_MO_stringOf rfl rfl (m_MO_strOf3 al bl cl) (by decide) (by decide) (by decide) (by decide) (Nat.le_of_ble_eq_true rfl) ?_
  rintro _ h9_1 ⟨rfl, e9_1⟩
  rw [e9_1]
  refine w_eq (st' := [.long (lN (kOf a b (c + 1) - 4398048608256)), .int (nI r), .ref 57]) rfl ?_
  refine w_callV (as := [.int (nI r), .long (lN (kOf a b (c + 1) - 4398048608256))]) (st := []) d_MO_begins_75 yM_MO_stringMember l_MO_64 vM_MO_stringMember hx rfl rfl rfl rfl (m_MO_strMember hx hE (t := r) (by omega) ⟨a, b, c + 1, al, bl, by omega, rfl⟩ r3) (by decide) (by decide) (by decide) (by decide) (Nat.le_of_ble_eq_true rfl) ?_
  rintro _ h9_2 ⟨rfl, e9_2⟩
  rw [e9_2]
  refine w_eq (st' := [.int (bI (decide (kOf a b (c + 1) ∈ SS r)))]) rfl ?_
  rw [← hEN]
  refine w_zret d_MO_begins_78 rfl (bI_01 _) ?_
  exact ⟨rfl, rfl⟩
set_option maxHeartbeats 4000000 in
set_option maxRecDepth 100000 in
theorem m_MO_beginsB {h : wH} {t : List Nat} {EE SS : Nat → List Nat} (hm : hMO h t EE SS) {r k n : Nat} (hn : n ≤ 3) (hk60 : k ≤ 60) (hb : ¬ k + n ≤ t.length) : PM X M_MO_begins 1 0 0 [.ref 57, .int (nI r), .int (nI k), .int (nI n)] h (fun z h' => z = some (.int (bI (tM (EE r) (SS r) t k n))) ∧ h' = h) := by
  have hm0 := hm; obtain ⟨⟨ap, gd, dp, wr, fi, hx⟩, htx, hE, hA⟩ := hm
  obtain ⟨tf, tp, t60, thf⟩ := id htx
  refine PM.at (pl := [some (.ref 57), some (.int (nI r)), some (.int (nI k)), some (.int (nI n))]) rfl rfl (by simp [wle, wen]) ?_
  generalize hEN : wEm X 0 0 _ = EN
  refine w_iload_n d_MO_begins_0 rfl ?_
  refine w_iload_n d_MO_begins_1 rfl ?_
  refine w_iadd d_MO_begins_2 ?_
  refine w_topi (y := nI (k + n)) (nI_add _ _) ?_
  refine w_aload_n d_MO_begins_3 rfl rfl ?_
  refine w_get d_MO_begins_4 f_MO_43 hx rfl ?_
  refine w_icmp_le (tgt := 12) d_MO_begins_7 rfl (fun z => absurd z (fun z => hb ((nI_leI (by omega) (by omega)).mp z))) (fun _ => ?_)
  refine w_iconst (v := nI 0) d_MO_begins_10 (by decide) ?_
  rw [← hEN]
  refine w_zret d_MO_begins_11 rfl (by first | exact Or.inl rfl | exact Or.inr rfl) ?_
  rw [tM_bad (fun z => hb z.2.2)]
  exact ⟨rfl, rfl⟩
theorem m_MO_begins {h : wH} {t : List Nat} {EE SS : Nat → List Nat} (hm : hMO h t EE SS) (hk : mOk t EE SS) {r k n : Nat} (hr : r < 3) (hn : 1 ≤ n) (hn3 : n ≤ 3) (hk60 : k ≤ 60) : PM X M_MO_begins 1 0 0 [.ref 57, .int (nI r), .int (nI k), .int (nI n)] h (fun z h' => z = some (.int (bI (tM (EE r) (SS r) t k n))) ∧ h' = h) := by
  by_cases hb : k + n ≤ t.length
  · obtain ⟨a, ha⟩ := t_at (t := t) (k := k) (by omega)
    rcases (by omega : n = 1 ∨ n = 2 ∨ n = 3) with rfl | rfl | rfl
    · have := m_MO_begins1 (X := X) hm hk hr ha
      unfold tM
      rw [ha]
      exact this
    · obtain ⟨b, hb1⟩ := t_at (t := t) (k := k + 1) (by omega)
      have := m_MO_begins2 (X := X) hm hk hr ha hb1
      unfold tM
      rw [ha, hb1]
      exact this
    · obtain ⟨b, hb1⟩ := t_at (t := t) (k := k + 1) (by omega)
      obtain ⟨c, hc1⟩ := t_at (t := t) (k := k + 2) (by omega)
      have := m_MO_begins3 (X := X) hm hk hr ha hb1 hc1
      unfold tM
      rw [ha, hb1, hc1]
      exact this
  · exact m_MO_beginsB hm hn3 hk60 hb
set_option maxHeartbeats 4000000 in
set_option maxRecDepth 100000 in
theorem m_MO_has0 {h : wH} {t : List Nat} {EE SS : Nat → List Nat} (hm : hMO h t EE SS) (hk : mOk t EE SS) {r : Nat} (hr : r < 3) (hl : t.length = 0) : PM X M_MO_has 1 0 0 [.ref 57, .int (nI r)] h (fun z h' => z = some (.int (bI (false))) ∧ h' = h) := by
  have hm0 := hm; obtain ⟨⟨ap, gd, dp, wr, fi, hx⟩, htx, hE, hA⟩ := hm
  obtain ⟨ef, cf, sf, nf, ha, hb, hc, hd, hs⟩ := id hE
  obtain ⟨tf, tp, t60, thf⟩ := id htx
  obtain ⟨s1, s2, s3, s4, s5, s6⟩ := hs r (by omega)
  obtain ⟨r1, r2, r3, r4⟩ := hk.2.1 r hr
  have e31 : ∀ y ∈ EE r, y < 2 ^ 31 := fun y hy => by have := r1.2 y hy; omega
  have hx9 := hx; rw [hl] at hx9
  refine PM.at (pl := [some (.ref 57), some (.int (nI r))]) rfl rfl (by simp [wle, wen]) ?_
  generalize hEN : wEm X 0 0 _ = EN
  refine w_iload_n d_MO_has_0 rfl ?_
  refine w_callS (as := [.int (nI r)]) (st := []) d_MO_has_1 yM_MO_register l_MO_196 sM_MO_register rfl rfl (m_MO_regG (r := r) hr) (by decide) (by decide) (by decide) (by decide) (Nat.le_of_ble_eq_true rfl) ?_
  rintro _ h9_1 ⟨rfl, e9_1⟩
  rw [e9_1]
  refine w_eq (st' := [.int (nI 1)]) rfl ?_
  refine w_if_eq (tgt := 22) d_MO_has_4 rfl (fun z => absurd z (by decide)) (fun _ => ?_)
  refine w_aload_n d_MO_has_7 rfl rfl ?_
  refine w_get d_MO_has_8 f_MO_43 hx9 rfl ?_
  refine w_if_eq (tgt := 22) d_MO_has_11 rfl (fun _ => ?_) (fun z => absurd (by decide) z)
  refine w_iconst (v := nI 0) d_MO_has_22 (by decide) ?_
  rw [← hEN]
  refine w_zret d_MO_has_23 rfl (by first | exact Or.inl rfl | exact Or.inr rfl) ?_
  exact ⟨rfl, rfl⟩
set_option maxHeartbeats 4000000 in
set_option maxRecDepth 100000 in
theorem m_MO_has1 {h : wH} {t : List Nat} {EE SS : Nat → List Nat} (hm : hMO h t EE SS) (hk : mOk t EE SS) {r : Nat} (hr : r < 3) (hl : t.length = 1) {a : Nat} (ha9 : t[0]? = some a) : PM X M_MO_has 1 0 0 [.ref 57, .int (nI r)] h (fun z h' => z = some (.int (bI (eMem (EE r) a))) ∧ h' = h) := by
  have hm0 := hm; obtain ⟨⟨ap, gd, dp, wr, fi, hx⟩, htx, hE, hA⟩ := hm
  obtain ⟨ef, cf, sf, nf, ha, hb, hc, hd, hs⟩ := id hE
  obtain ⟨tf, tp, t60, thf⟩ := id htx
  obtain ⟨s1, s2, s3, s4, s5, s6⟩ := hs r (by omega)
  obtain ⟨r1, r2, r3, r4⟩ := hk.2.1 r hr
  have e31 : ∀ y ∈ EE r, y < 2 ^ 31 := fun y hy => by have := r1.2 y hy; omega
  have al := hk.1 a (List.mem_of_getElem? ha9)
  have hx9 := hx; rw [hl] at hx9
  refine PM.at (pl := [some (.ref 57), some (.int (nI r))]) rfl rfl (by simp [wle, wen]) ?_
  generalize hEN : wEm X 0 0 _ = EN
  refine w_iload_n d_MO_has_0 rfl ?_
  refine w_callS (as := [.int (nI r)]) (st := []) d_MO_has_1 yM_MO_register l_MO_196 sM_MO_register rfl rfl (m_MO_regG (r := r) hr) (by decide) (by decide) (by decide) (by decide) (Nat.le_of_ble_eq_true rfl) ?_
  rintro _ h9_1 ⟨rfl, e9_1⟩
  rw [e9_1]
  refine w_eq (st' := [.int (nI 1)]) rfl ?_
  refine w_if_eq (tgt := 22) d_MO_has_4 rfl (fun z => absurd z (by decide)) (fun _ => ?_)
  refine w_aload_n d_MO_has_7 rfl rfl ?_
  refine w_get d_MO_has_8 f_MO_43 hx9 rfl ?_
  refine w_if_eq (tgt := 22) d_MO_has_11 rfl (fun z => absurd z (by decide)) (fun _ => ?_)
  refine w_aload_n d_MO_has_14 rfl rfl ?_
  refine w_get d_MO_has_15 f_MO_43 hx9 rfl ?_
  refine w_iconst (v := nI 3) d_MO_has_18 (by decide) ?_
  refine w_icmp_le (tgt := 24) d_MO_has_19 rfl (fun _ => ?_) (fun z => absurd (by decide) z)
  refine w_aload_n d_MO_has_24 rfl rfl ?_
  refine w_get d_MO_has_25 f_MO_43 hx9 rfl ?_
  refine w_iconst (v := nI 1) d_MO_has_28 (by decide) ?_
  refine w_icmp_ne (tgt := 44) d_MO_has_29 rfl (fun z => absurd (by decide) z) (fun _ => ?_)
  refine w_aload_n d_MO_has_32 rfl rfl ?_
  refine w_iload_n d_MO_has_33 rfl ?_
  refine w_aload_n d_MO_has_34 rfl rfl ?_
  refine w_get d_MO_has_35 f_MO_7 hx9 rfl ?_
  refine w_iconst (v := nI 0) d_MO_has_38 (by decide) ?_
  refine w_iald d_MO_has_39 tp (vp_in_nI (by decide) (by decide)) ?_
  refine w_topi (y := nI a) (thf 0 _ ha9) ?_
  refine w_callV (as := [.int (nI r), .int (nI a)]) (st := []) d_MO_has_40 yM_MO_member l_MO_56 vM_MO_member hx9 rfl rfl rfl rfl (m_MO_member hx hE (t := r) (by omega) (by omega) e31) (by decide) (by decide) (by decide) (by decide) (Nat.le_of_ble_eq_true rfl) ?_
  rintro _ h9_2 ⟨rfl, e9_2⟩
  rw [e9_2]
  refine w_eq (st' := [.int (bI (eMem (EE r) a))]) rfl ?_
  rw [← hEN]
  refine w_zret d_MO_has_43 rfl (bI_01 _) ?_
  exact ⟨rfl, rfl⟩
set_option maxHeartbeats 4000000 in
set_option maxRecDepth 100000 in
theorem m_MO_has2 {h : wH} {t : List Nat} {EE SS : Nat → List Nat} (hm : hMO h t EE SS) (hk : mOk t EE SS) {r : Nat} (hr : r < 3) (hl : t.length = 2) {a : Nat} (ha9 : t[0]? = some a) {b : Nat} (hb9 : t[1]? = some b) : PM X M_MO_has 1 0 0 [.ref 57, .int (nI r)] h (fun z h' => z = some (.int (bI (decide (kOf a b 0 ∈ SS r)))) ∧ h' = h) := by
  have hm0 := hm; obtain ⟨⟨ap, gd, dp, wr, fi, hx⟩, htx, hE, hA⟩ := hm
  obtain ⟨ef, cf, sf, nf, ha, hb, hc, hd, hs⟩ := id hE
  obtain ⟨tf, tp, t60, thf⟩ := id htx
  obtain ⟨s1, s2, s3, s4, s5, s6⟩ := hs r (by omega)
  obtain ⟨r1, r2, r3, r4⟩ := hk.2.1 r hr
  have e31 : ∀ y ∈ EE r, y < 2 ^ 31 := fun y hy => by have := r1.2 y hy; omega
  have al := hk.1 a (List.mem_of_getElem? ha9)
  have bl := hk.1 b (List.mem_of_getElem? hb9)
  have hx9 := hx; rw [hl] at hx9
  refine PM.at (pl := [some (.ref 57), some (.int (nI r))]) rfl rfl (by simp [wle, wen]) ?_
  generalize hEN : wEm X 0 0 _ = EN
  refine w_iload_n d_MO_has_0 rfl ?_
  refine w_callS (as := [.int (nI r)]) (st := []) d_MO_has_1 yM_MO_register l_MO_196 sM_MO_register rfl rfl (m_MO_regG (r := r) hr) (by decide) (by decide) (by decide) (by decide) (Nat.le_of_ble_eq_true rfl) ?_
  rintro _ h9_1 ⟨rfl, e9_1⟩
  rw [e9_1]
  refine w_eq (st' := [.int (nI 1)]) rfl ?_
  refine w_if_eq (tgt := 22) d_MO_has_4 rfl (fun z => absurd z (by decide)) (fun _ => ?_)
  refine w_aload_n d_MO_has_7 rfl rfl ?_
  refine w_get d_MO_has_8 f_MO_43 hx9 rfl ?_
  refine w_if_eq (tgt := 22) d_MO_has_11 rfl (fun z => absurd z (by decide)) (fun _ => ?_)
  refine w_aload_n d_MO_has_14 rfl rfl ?_
  refine w_get d_MO_has_15 f_MO_43 hx9 rfl ?_
  refine w_iconst (v := nI 3) d_MO_has_18 (by decide) ?_
  refine w_icmp_le (tgt := 24) d_MO_has_19 rfl (fun _ => ?_) (fun z => absurd (by decide) z)
  refine w_aload_n d_MO_has_24 rfl rfl ?_
  refine w_get d_MO_has_25 f_MO_43 hx9 rfl ?_
  refine w_iconst (v := nI 1) d_MO_has_28 (by decide) ?_
  refine w_icmp_ne (tgt := 44) d_MO_has_29 rfl (fun _ => ?_) (fun z => absurd z (by decide))
  refine w_aload_n d_MO_has_44 rfl rfl ?_
  refine w_iload_n d_MO_has_45 rfl ?_
  refine w_aload_n d_MO_has_46 rfl rfl ?_
  refine w_get d_MO_has_47 f_MO_7 hx9 rfl ?_
  refine w_iconst (v := nI 0) d_MO_has_50 (by decide) ?_
  refine w_iald d_MO_has_51 tp (vp_in_nI (by decide) (by decide)) ?_
  refine w_topi (y := nI a) (thf 0 _ ha9) ?_
  refine w_aload_n d_MO_has_52 rfl rfl ?_
  refine w_get d_MO_has_53 f_MO_7 hx9 rfl ?_
  refine w_iconst (v := nI 1) d_MO_has_56 (by decide) ?_
  refine w_iald d_MO_has_57 tp (vp_in_nI (by decide) (by decide)) ?_
  refine w_topi (y := nI b) (thf 1 _ hb9) ?_
  refine w_aload_n d_MO_has_58 rfl rfl ?_
  refine w_get d_MO_has_59 f_MO_43 hx9 rfl ?_
  refine w_iconst (v := nI 3) d_MO_has_62 (by decide) ?_
  refine w_icmp_ne (tgt := 75) d_MO_has_63 rfl (fun _ => ?_) (fun z => absurd z (by decide))
  refine w_iconst (v := nI 0) d_MO_has_75 (by decide) ?_
  refine w_aload_n d_MO_has_76 rfl rfl ?_
  refine w_get d_MO_has_77 f_MO_43 hx9 rfl ?_
  refine w_iconst (v := nI 3) d_MO_has_80 (by decide) ?_
  refine w_icmp_ne (tgt := 88) d_MO_has_81 rfl (fun _ => ?_) (fun z => absurd z (by decide))
  refine w_iconst (v := nI 0) d_MO_has_88 (by decide) ?_
  refine w_callS (as := [.int (nI a), .int (nI b), .int (nI 0), .int (nI 0)]) (st := [.int (nI r), .ref 57]) d_MO_has_89 yM_MO_stringOf l_MO_168 sM_MO_stringOf rfl rfl (m_MO_strOf2 al bl) (by decide) (by decide) (by decide) (by decide) (Nat.le_of_ble_eq_true rfl) ?_
  rintro _ h9_2 ⟨rfl, e9_2⟩
  rw [e9_2]
  refine w_eq (st' := [.long (lN (kOf a b 0 - 4398048608256)), .int (nI r), .ref 57]) rfl ?_
  refine w_callV (as := [.int (nI r), .long (lN (kOf a b 0 - 4398048608256))]) (st := []) d_MO_has_92 yM_MO_stringMember l_MO_64 vM_MO_stringMember hx9 rfl rfl rfl rfl (m_MO_strMember hx hE (t := r) (by omega) ⟨a, b, 0, al, bl, by omega, rfl⟩ r3) (by decide) (by decide) (by decide) (by decide) (Nat.le_of_ble_eq_true rfl) ?_
  rintro _ h9_3 ⟨rfl, e9_3⟩
  rw [e9_3]
  refine w_eq (st' := [.int (bI (decide (kOf a b 0 ∈ SS r)))]) rfl ?_
  rw [← hEN]
  refine w_zret d_MO_has_95 rfl (bI_01 _) ?_
  exact ⟨rfl, rfl⟩
set_option maxHeartbeats 4000000 in
set_option maxRecDepth 100000 in
theorem m_MO_has3 {h : wH} {t : List Nat} {EE SS : Nat → List Nat} (hm : hMO h t EE SS) (hk : mOk t EE SS) {r : Nat} (hr : r < 3) (hl : t.length = 3) {a : Nat} (ha9 : t[0]? = some a) {b : Nat} (hb9 : t[1]? = some b) {c : Nat} (hc9 : t[2]? = some c) : PM X M_MO_has 1 0 0 [.ref 57, .int (nI r)] h (fun z h' => z = some (.int (bI (decide (kOf a b (c + 1) ∈ SS r)))) ∧ h' = h) := by
  have hm0 := hm; obtain ⟨⟨ap, gd, dp, wr, fi, hx⟩, htx, hE, hA⟩ := hm
  obtain ⟨ef, cf, sf, nf, ha, hb, hc, hd, hs⟩ := id hE
  obtain ⟨tf, tp, t60, thf⟩ := id htx
  obtain ⟨s1, s2, s3, s4, s5, s6⟩ := hs r (by omega)
  obtain ⟨r1, r2, r3, r4⟩ := hk.2.1 r hr
  have e31 : ∀ y ∈ EE r, y < 2 ^ 31 := fun y hy => by have := r1.2 y hy; omega
  have al := hk.1 a (List.mem_of_getElem? ha9)
  have bl := hk.1 b (List.mem_of_getElem? hb9)
  have cl := hk.1 c (List.mem_of_getElem? hc9)
  have hx9 := hx; rw [hl] at hx9
  refine PM.at (pl := [some (.ref 57), some (.int (nI r))]) rfl rfl (by simp [wle, wen]) ?_
  generalize hEN : wEm X 0 0 _ = EN
  refine w_iload_n d_MO_has_0 rfl ?_
  refine w_callS (as := [.int (nI r)]) (st := []) d_MO_has_1 yM_MO_register l_MO_196 sM_MO_register rfl rfl (m_MO_regG (r := r) hr) (by decide) (by decide) (by decide) (by decide) (Nat.le_of_ble_eq_true rfl) ?_
  rintro _ h9_1 ⟨rfl, e9_1⟩
  rw [e9_1]
  refine w_eq (st' := [.int (nI 1)]) rfl ?_
  refine w_if_eq (tgt := 22) d_MO_has_4 rfl (fun z => absurd z (by decide)) (fun _ => ?_)
  refine w_aload_n d_MO_has_7 rfl rfl ?_
  refine w_get d_MO_has_8 f_MO_43 hx9 rfl ?_
  refine w_if_eq (tgt := 22) d_MO_has_11 rfl (fun z => absurd z (by decide)) (fun _ => ?_)
  refine w_aload_n d_MO_has_14 rfl rfl ?_
  refine w_get d_MO_has_15 f_MO_43 hx9 rfl ?_
  refine w_iconst (v := nI 3) d_MO_has_18 (by decide) ?_
  refine w_icmp_le (tgt := 24) d_MO_has_19 rfl (fun _ => ?_) (fun z => absurd (by decide) z)
  refine w_aload_n d_MO_has_24 rfl rfl ?_
  refine w_get d_MO_has_25 f_MO_43 hx9 rfl ?_
  refine w_iconst (v := nI 1) d_MO_has_28 (by decide) ?_
  refine w_icmp_ne (tgt := 44) d_MO_has_29 rfl (fun _ => ?_) (fun z => absurd z (by decide))
  refine w_aload_n d_MO_has_44 rfl rfl ?_
  refine w_iload_n d_MO_has_45 rfl ?_
  refine w_aload_n d_MO_has_46 rfl rfl ?_
  refine w_get d_MO_has_47 f_MO_7 hx9 rfl ?_
  refine w_iconst (v := nI 0) d_MO_has_50 (by decide) ?_
  refine w_iald d_MO_has_51 tp (vp_in_nI (by decide) (by decide)) ?_
  refine w_topi (y := nI a) (thf 0 _ ha9) ?_
  refine w_aload_n d_MO_has_52 rfl rfl ?_
  refine w_get d_MO_has_53 f_MO_7 hx9 rfl ?_
  refine w_iconst (v := nI 1) d_MO_has_56 (by decide) ?_
  refine w_iald d_MO_has_57 tp (vp_in_nI (by decide) (by decide)) ?_
  refine w_topi (y := nI b) (thf 1 _ hb9) ?_
  refine w_aload_n d_MO_has_58 rfl rfl ?_
  refine w_get d_MO_has_59 f_MO_43 hx9 rfl ?_
  refine w_iconst (v := nI 3) d_MO_has_62 (by decide) ?_
  refine w_icmp_ne (tgt := 75) d_MO_has_63 rfl (fun z => absurd (by decide) z) (fun _ => ?_)
  refine w_aload_n d_MO_has_66 rfl rfl ?_
  refine w_get d_MO_has_67 f_MO_7 hx9 rfl ?_
  refine w_iconst (v := nI 2) d_MO_has_70 (by decide) ?_
  refine w_iald d_MO_has_71 tp (vp_in_nI (by decide) (by decide)) ?_
  refine w_topi (y := nI c) (thf 2 _ hc9) ?_
  refine w_goto (tgt := 76) d_MO_has_72 rfl ?_
  refine w_aload_n d_MO_has_76 rfl rfl ?_
  refine w_get d_MO_has_77 f_MO_43 hx9 rfl ?_
  refine w_iconst (v := nI 3) d_MO_has_80 (by decide) ?_
  refine w_icmp_ne (tgt := 88) d_MO_has_81 rfl (fun z => absurd (by decide) z) (fun _ => ?_)
  refine w_iconst (v := nI 1) d_MO_has_84 (by decide) ?_
  refine w_goto (tgt := 89) d_MO_has_85 rfl ?_
  refine w_callS (as := [.int (nI a), .int (nI b), .int (nI c), .int (nI 1)]) (st := [.int (nI r), .ref 57]) d_MO_has_89 yM_MO_stringOf l_MO_168 sM_MO_stringOf rfl rfl (m_MO_strOf3 al bl cl) (by decide) (by decide) (by decide) (by decide) (Nat.le_of_ble_eq_true rfl) ?_
  rintro _ h9_2 ⟨rfl, e9_2⟩
  rw [e9_2]
  refine w_eq (st' := [.long (lN (kOf a b (c + 1) - 4398048608256)), .int (nI r), .ref 57]) rfl ?_
  refine w_callV (as := [.int (nI r), .long (lN (kOf a b (c + 1) - 4398048608256))]) (st := []) d_MO_has_92 yM_MO_stringMember l_MO_64 vM_MO_stringMember hx9 rfl rfl rfl rfl (m_MO_strMember hx hE (t := r) (by omega) ⟨a, b, c + 1, al, bl, by omega, rfl⟩ r3) (by decide) (by decide) (by decide) (by decide) (Nat.le_of_ble_eq_true rfl) ?_
  rintro _ h9_3 ⟨rfl, e9_3⟩
  rw [e9_3]
  refine w_eq (st' := [.int (bI (decide (kOf a b (c + 1) ∈ SS r)))]) rfl ?_
  rw [← hEN]
  refine w_zret d_MO_has_95 rfl (bI_01 _) ?_
  exact ⟨rfl, rfl⟩
set_option maxHeartbeats 4000000 in
set_option maxRecDepth 100000 in
theorem m_MO_has4 {h : wH} {t : List Nat} {EE SS : Nat → List Nat} (hm : hMO h t EE SS) (hk : mOk t EE SS) {r : Nat} (hr : r < 3) (hl : 3 < t.length) : PM X M_MO_has 1 0 0 [.ref 57, .int (nI r)] h (fun z h' => z = some (.int (bI (false))) ∧ h' = h) := by
  have hm0 := hm; obtain ⟨⟨ap, gd, dp, wr, fi, hx⟩, htx, hE, hA⟩ := hm
  obtain ⟨ef, cf, sf, nf, ha, hb, hc, hd, hs⟩ := id hE
  obtain ⟨tf, tp, t60, thf⟩ := id htx
  obtain ⟨s1, s2, s3, s4, s5, s6⟩ := hs r (by omega)
  obtain ⟨r1, r2, r3, r4⟩ := hk.2.1 r hr
  have e31 : ∀ y ∈ EE r, y < 2 ^ 31 := fun y hy => by have := r1.2 y hy; omega
  have hx9 := hx
  refine PM.at (pl := [some (.ref 57), some (.int (nI r))]) rfl rfl (by simp [wle, wen]) ?_
  generalize hEN : wEm X 0 0 _ = EN
  refine w_iload_n d_MO_has_0 rfl ?_
  refine w_callS (as := [.int (nI r)]) (st := []) d_MO_has_1 yM_MO_register l_MO_196 sM_MO_register rfl rfl (m_MO_regG (r := r) hr) (by decide) (by decide) (by decide) (by decide) (Nat.le_of_ble_eq_true rfl) ?_
  rintro _ h9_1 ⟨rfl, e9_1⟩
  rw [e9_1]
  refine w_eq (st' := [.int (nI 1)]) rfl ?_
  refine w_if_eq (tgt := 22) d_MO_has_4 rfl (fun z => absurd z (by decide)) (fun _ => ?_)
  refine w_aload_n d_MO_has_7 rfl rfl ?_
  refine w_get d_MO_has_8 f_MO_43 hx9 rfl ?_
  refine w_if_eq (tgt := 22) d_MO_has_11 rfl (fun z => absurd z (nI_ne0 (by omega) (by omega))) (fun _ => ?_)
  refine w_aload_n d_MO_has_14 rfl rfl ?_
  refine w_get d_MO_has_15 f_MO_43 hx9 rfl ?_
  refine w_iconst (v := nI 3) d_MO_has_18 (by decide) ?_
  refine w_icmp_le (tgt := 24) d_MO_has_19 rfl (fun z => absurd z (nI_ge hl (by omega))) (fun _ => ?_)
  refine w_iconst (v := nI 0) d_MO_has_22 (by decide) ?_
  rw [← hEN]
  refine w_zret d_MO_has_23 rfl (by first | exact Or.inl rfl | exact Or.inr rfl) ?_
  exact ⟨rfl, rfl⟩
theorem m_MO_hasG {h : wH} {t : List Nat} {EE SS : Nat → List Nat} (hm : hMO h t EE SS) (hk : mOk t EE SS) {r : Nat} (hr : r < 3) : PM X M_MO_has 1 0 0 [.ref 57, .int (nI r)] h (fun z h' => z = some (.int (bI (tM (EE r) (SS r) t 0 t.length))) ∧ h' = h) := by
  rcases (by omega : t.length = 0 ∨ t.length = 1 ∨ t.length = 2 ∨ t.length = 3 ∨ 3 < t.length) with hl | hl | hl | hl | hl
  · rw [tM_bad (by omega)]
    exact m_MO_has0 hm hk hr hl
  · obtain ⟨a, ha⟩ := t_at (t := t) (k := 0) (by omega)
    have := m_MO_has1 (X := X) hm hk hr hl ha
    unfold tM
    rw [hl, ha]
    exact this
  · obtain ⟨a, ha⟩ := t_at (t := t) (k := 0) (by omega)
    obtain ⟨b, hb1⟩ := t_at (t := t) (k := 1) (by omega)
    have := m_MO_has2 (X := X) hm hk hr hl ha hb1
    unfold tM
    rw [hl, ha, show t[0 + 1]? = some b from hb1]
    exact this
  · obtain ⟨a, ha⟩ := t_at (t := t) (k := 0) (by omega)
    obtain ⟨b, hb1⟩ := t_at (t := t) (k := 1) (by omega)
    obtain ⟨c, hc1⟩ := t_at (t := t) (k := 2) (by omega)
    have := m_MO_has3 (X := X) hm hk hr hl ha hb1 hc1
    unfold tM
    rw [hl, ha, show t[0 + 1]? = some b from hb1, show t[0 + 2]? = some c from hc1]
    exact this
  · rw [tM_bad (by omega)]
    exact m_MO_has4 hm hk hr hl
set_option maxHeartbeats 4000000 in
set_option maxRecDepth 100000 in
theorem m_MO_hasB {h : wH} {t : List Nat} {EE SS : Nat → List Nat} (hm : hMO h t EE SS) {x : Int32} (hxr : ¬ (0 ≤ x ∧ x < nI 3)) : PM X M_MO_has 1 0 0 [.ref 57, .int (x)] h (fun z h' => z = some (.int (bI false)) ∧ h' = h) := by
  have hm0 := hm; obtain ⟨⟨ap, gd, dp, wr, fi, hx⟩, htx, hE, hA⟩ := hm
  refine PM.at (pl := [some (.ref 57), some (.int (x))]) rfl rfl (by simp [wle, wen]) ?_
  generalize hEN : wEm X 0 0 _ = EN
  refine w_iload_n d_MO_has_0 rfl ?_
  refine w_callS (as := [.int (x)]) (st := []) d_MO_has_1 yM_MO_register l_MO_196 sM_MO_register rfl rfl (m_MO_regB (x := x) hxr) (by decide) (by decide) (by decide) (by decide) (Nat.le_of_ble_eq_true rfl) ?_
  rintro _ h9_1 ⟨rfl, e9_1⟩
  rw [e9_1]
  refine w_eq (st' := [.int (nI 0)]) rfl ?_
  refine w_if_eq (tgt := 22) d_MO_has_4 rfl (fun _ => ?_) (fun z => absurd (by decide) z)
  refine w_iconst (v := nI 0) d_MO_has_22 (by decide) ?_
  rw [← hEN]
  refine w_zret d_MO_has_23 rfl (by first | exact Or.inl rfl | exact Or.inr rfl) ?_
  exact ⟨rfl, rfl⟩
set_option maxHeartbeats 4000000 in
set_option maxRecDepth 100000 in
theorem m_MO_size {h : wH} {sz ap gd dp wr fi : Int32} (hx : h[57]? = some (.inr (7, [.ref 58, .int (sz), .ref 59, .ref 60, .ref 61, .ref 62, .int (ap), .int (gd), .int (dp), .ref 63, .ref 64, .ref 65, .ref 66, .int (wr), .int (fi), .ref 67]))) {EE SS : Nat → List Nat} (hE : mE h EE SS) {r : Nat} (hr : r < 3) (r1 : eAsc (EE r)) : PM X M_MO_size 1 0 0 [.ref 57, .int (nI r)] h (fun z h' => z = some (.int (nI (eSize (EE r)))) ∧ h' = h) := by
  obtain ⟨ef, cf, sf, nf, ha, hb, hc, hd, hs⟩ := id hE
  obtain ⟨s1, s2, s3, s4, s5, s6⟩ := hs r (by omega)
  refine PM.at (pl := [some (.ref 57), some (.int (nI r)), none, none]) rfl rfl (by simp [wle, wen]) ?_
  generalize hEN : wEm X 0 0 _ = EN
  have L : ∀ (n : Nat) (i tot : Nat), ((EE r).length - i < n) → (i ≤ (EE r).length + 1) → (tot + eSize ((EE r).drop i) = eSize (EE r)) → WP X M_MO_size (wR 1 0 0) 0 EN 0 0 13 [some (.ref 57), some (.int (nI r)), some (.int (nI tot)), some (.int (nI i))] [] h := by
    intro n
    induction n with
    | zero => intro i tot h1 h2 h3; omega
    | succ n ih =>
      intro i tot h1 h2 h3
      refine w_iload_n d_MO_size_13 rfl ?_
      refine w_iconst (v := nI 1) d_MO_size_14 (by decide) ?_
      refine w_iadd d_MO_size_15 ?_
      refine w_topi (y := nI (i + 1)) (nI_add _ _) ?_
      refine w_aload_n d_MO_size_16 rfl rfl ?_
      refine w_get d_MO_size_17 f_MO_16 hx rfl ?_
      refine w_iload_n d_MO_size_20 rfl ?_
      refine w_iald d_MO_size_21 hb (vp_in_nI (by omega) (by decide)) ?_
      refine w_topi (y := nI (EE r).length) (by rw [nI_clamp (by omega)]; exact s1) ?_
      refine w_icmp_ge (tgt := 61) d_MO_size_22 rfl (fun c22 => ?_) (fun c22 => ?_)
      · have c22 := (nI_leI (a := (EE r).length) (b := i + 1) (by omega) (by omega)).mp c22
        refine w_iload_n d_MO_size_61 rfl ?_
        rw [← hEN]
        refine w_iret d_MO_size_62 rfl ?_
        rw [eSize_short (by rw [List.length_drop]; omega), Nat.add_zero] at h3
        rw [h3]
        exact ⟨rfl, rfl⟩
      · have c22 : i + 1 < (EE r).length := Nat.not_le.mp (fun z => c22 ((nI_leI (a := (EE r).length) (b := i + 1) (by omega) (by omega)).mpr z))
        obtain ⟨a, b, hab, ha1, hb1, hdr⟩ := eDrop2 r1 c22
        refine w_iload_n d_MO_size_25 rfl ?_
        refine w_aload_n d_MO_size_26 rfl rfl ?_
        refine w_get d_MO_size_27 f_MO_13 hx rfl ?_
        refine w_sipush (v := nI 420) d_MO_size_30 (by decide) ?_
        refine w_iload_n d_MO_size_33 rfl ?_
        refine w_imul d_MO_size_34 ?_
        refine w_topi (y := nI (420 * r)) (pk_mul 420 r) ?_
        refine w_iload_n d_MO_size_35 rfl ?_
        refine w_iadd d_MO_size_36 ?_
        refine w_topi (y := nI (420 * r + i)) (nI_add _ _) ?_
        refine w_iconst (v := nI 1) d_MO_size_37 (by decide) ?_
        refine w_iadd d_MO_size_38 ?_
        refine w_topi (y := nI (420 * r + i + 1)) (nI_add _ _) ?_
        refine w_iald d_MO_size_39 ha (vp_in_nI (by omega) (by decide)) ?_
        refine w_topi (y := nI b) (by rw [nI_clamp (by omega)]; exact s5 _ _ hb1) ?_
        refine w_iadd d_MO_size_40 ?_
        refine w_topi (y := nI (tot + b)) (nI_add _ _) ?_
        refine w_aload_n d_MO_size_41 rfl rfl ?_
        refine w_get d_MO_size_42 f_MO_13 hx rfl ?_
        refine w_sipush (v := nI 420) d_MO_size_45 (by decide) ?_
        refine w_iload_n d_MO_size_48 rfl ?_
        refine w_imul d_MO_size_49 ?_
        refine w_topi (y := nI (420 * r)) (pk_mul 420 r) ?_
        refine w_iload_n d_MO_size_50 rfl ?_
        refine w_iadd d_MO_size_51 ?_
        refine w_topi (y := nI (420 * r + i)) (nI_add _ _) ?_
        refine w_iald d_MO_size_52 ha (vp_in_nI (by omega) (by decide)) ?_
        refine w_topi (y := nI a) (by rw [nI_clamp (by omega)]; exact s5 _ _ ha1) ?_
        refine w_isub d_MO_size_53 ?_
        refine w_topi (y := nI (tot + b - a)) (pk_sub (by omega)) ?_
        refine w_istore_n d_MO_size_54 (by decide) ?_
        refine w_pl (pl' := [some (.ref 57), some (.int (nI r)), some (.int (nI (tot + b - a))), some (.int (nI i))]) rfl ?_
        refine w_iinc (v := nI (i + 2)) d_MO_size_55 rfl (nI_add i 2) (by decide) ?_
        refine w_pl (pl' := [some (.ref 57), some (.int (nI r)), some (.int (nI (tot + b - a))), some (.int (nI (i + 2)))]) rfl ?_
        refine w_goto (tgt := 13) d_MO_size_58 rfl ?_
        exact ih (i + 2) (tot + b - a) (by omega) (by omega) (by rw [hdr] at h3; simp only [eSize] at h3; omega)
  refine w_iload_n d_MO_size_0 rfl ?_
  refine w_callS (as := [.int (nI r)]) (st := []) d_MO_size_1 yM_MO_register l_MO_196 sM_MO_register rfl rfl (m_MO_regG (r := r) hr) (by decide) (by decide) (by decide) (by decide) (Nat.le_of_ble_eq_true rfl) ?_
  rintro _ h9_1 ⟨rfl, e9_1⟩
  rw [e9_1]
  refine w_eq (st' := [.int (nI 1)]) rfl ?_
  refine w_if_ne (tgt := 9) d_MO_size_4 rfl (fun _ => ?_) (fun z => absurd z (by decide))
  refine w_iconst (v := nI 0) d_MO_size_9 (by decide) ?_
  refine w_istore_n d_MO_size_10 (by decide) ?_
  refine w_pl (pl' := [some (.ref 57), some (.int (nI r)), some (.int (nI 0)), none]) rfl ?_
  refine w_iconst (v := nI 0) d_MO_size_11 (by decide) ?_
  refine w_istore_n d_MO_size_12 (by decide) ?_
  refine w_pl (pl' := [some (.ref 57), some (.int (nI r)), some (.int (nI 0)), some (.int (nI 0))]) rfl ?_
  exact L ((EE r).length + 1) 0 0 (by omega) (by omega) (by rw [List.drop_zero]; omega)
set_option maxHeartbeats 4000000 in
set_option maxRecDepth 100000 in
theorem m_MO_sizeB {h : wH} {t : List Nat} {EE SS : Nat → List Nat} (hm : hMO h t EE SS) {x : Int32} (hxr : ¬ (0 ≤ x ∧ x < nI 3)) : PM X M_MO_size 1 0 0 [.ref 57, .int (x)] h (fun z h' => z = some (.int (-1)) ∧ h' = h) := by
  have hm0 := hm; obtain ⟨⟨ap, gd, dp, wr, fi, hx⟩, htx, hE, hA⟩ := hm
  refine PM.at (pl := [some (.ref 57), some (.int (x)), none, none]) rfl rfl (by simp [wle, wen]) ?_
  generalize hEN : wEm X 0 0 _ = EN
  refine w_iload_n d_MO_size_0 rfl ?_
  refine w_callS (as := [.int (x)]) (st := []) d_MO_size_1 yM_MO_register l_MO_196 sM_MO_register rfl rfl (m_MO_regB (x := x) hxr) (by decide) (by decide) (by decide) (by decide) (Nat.le_of_ble_eq_true rfl) ?_
  rintro _ h9_1 ⟨rfl, e9_1⟩
  rw [e9_1]
  refine w_eq (st' := [.int (nI 0)]) rfl ?_
  refine w_if_ne (tgt := 9) d_MO_size_4 rfl (fun z => absurd (by decide) z) (fun _ => ?_)
  refine w_iconst (v := -1) d_MO_size_7 (by decide) ?_
  rw [← hEN]
  refine w_iret d_MO_size_8 rfl ?_
  exact ⟨rfl, rfl⟩
set_option maxHeartbeats 4000000 in
set_option maxRecDepth 100000 in
theorem m_MO_stringsG {h : wH} {t : List Nat} {EE SS : Nat → List Nat} (hm : hMO h t EE SS) (hk : mOk t EE SS) {r : Nat} (hr : r < 3) : PM X M_MO_strings 1 0 0 [.ref 57, .int (nI r)] h (fun z h' => z = some (.int (nI (SS r).length)) ∧ h' = h) := by
  have hm0 := hm; obtain ⟨⟨ap, gd, dp, wr, fi, hx⟩, htx, hE, hA⟩ := hm
  obtain ⟨ef, cf, sf, nf, ha, hb, hc, hd, hs⟩ := id hE
  obtain ⟨s1, s2, s3, s4, s5, s6⟩ := hs r (by omega)
  obtain ⟨r1, r2, r3, r4⟩ := hk.2.1 r hr
  have e31 : ∀ y ∈ EE r, y < 2 ^ 31 := fun y hy => by have := r1.2 y hy; omega
  refine PM.at (pl := [some (.ref 57), some (.int (nI r))]) rfl rfl (by simp [wle, wen]) ?_
  generalize hEN : wEm X 0 0 _ = EN
  refine w_iload_n d_MO_strings_0 rfl ?_
  refine w_callS (as := [.int (nI r)]) (st := []) d_MO_strings_1 yM_MO_register l_MO_196 sM_MO_register rfl rfl (m_MO_regG (r := r) hr) (by decide) (by decide) (by decide) (by decide) (Nat.le_of_ble_eq_true rfl) ?_
  rintro _ h9_1 ⟨rfl, e9_1⟩
  rw [e9_1]
  refine w_eq (st' := [.int (nI 1)]) rfl ?_
  refine w_if_eq (tgt := 16) d_MO_strings_4 rfl (fun z => absurd z (by decide)) (fun _ => ?_)
  refine w_aload_n d_MO_strings_7 rfl rfl ?_
  refine w_get d_MO_strings_8 f_MO_23 hx rfl ?_
  refine w_iload_n d_MO_strings_11 rfl ?_
  refine w_iald d_MO_strings_12 hd (vp_in_nI (by omega) (by decide)) ?_
  refine w_topi (y := nI (SS r).length) (by rw [nI_clamp (by omega)]; exact s2) ?_
  refine w_goto (tgt := 17) d_MO_strings_13 rfl ?_
  rw [← hEN]
  refine w_iret d_MO_strings_17 rfl ?_
  exact ⟨rfl, rfl⟩
set_option maxHeartbeats 4000000 in
set_option maxRecDepth 100000 in
theorem m_MO_stringsB {h : wH} {t : List Nat} {EE SS : Nat → List Nat} (hm : hMO h t EE SS) {x : Int32} (hxr : ¬ (0 ≤ x ∧ x < nI 3)) : PM X M_MO_strings 1 0 0 [.ref 57, .int (x)] h (fun z h' => z = some (.int (-1)) ∧ h' = h) := by
  have hm0 := hm; obtain ⟨⟨ap, gd, dp, wr, fi, hx⟩, htx, hE, hA⟩ := hm
  refine PM.at (pl := [some (.ref 57), some (.int (x))]) rfl rfl (by simp [wle, wen]) ?_
  generalize hEN : wEm X 0 0 _ = EN
  refine w_iload_n d_MO_strings_0 rfl ?_
  refine w_callS (as := [.int (x)]) (st := []) d_MO_strings_1 yM_MO_register l_MO_196 sM_MO_register rfl rfl (m_MO_regB (x := x) hxr) (by decide) (by decide) (by decide) (by decide) (Nat.le_of_ble_eq_true rfl) ?_
  rintro _ h9_1 ⟨rfl, e9_1⟩
  rw [e9_1]
  refine w_eq (st' := [.int (nI 0)]) rfl ?_
  refine w_if_eq (tgt := 16) d_MO_strings_4 rfl (fun _ => ?_) (fun z => absurd (by decide) z)
  refine w_iconst (v := -1) d_MO_strings_16 (by decide) ?_
  rw [← hEN]
  refine w_iret d_MO_strings_17 rfl ?_
  exact ⟨rfl, rfl⟩
set_option maxHeartbeats 4000000 in
set_option maxRecDepth 100000 in
theorem m_MO_edgeG {h : wH} {t : List Nat} {EE SS : Nat → List Nat} (hm : hMO h t EE SS) (hk : mOk t EE SS) {r : Nat} {k : Int32} (hr : r < 3) : PM X M_MO_edge 1 0 0 [.ref 57, .int (nI r), .int (k)] h (fun z h' => z = some (.int (if k < 0 then -1 else match (EE r)[(k).toNatClampNeg]? with | some x => nI x | none => -1)) ∧ h' = h) := by
  have hm0 := hm; obtain ⟨⟨ap, gd, dp, wr, fi, hx⟩, htx, hE, hA⟩ := hm
  obtain ⟨ef, cf, sf, nf, ha, hb, hc, hd, hs⟩ := id hE
  obtain ⟨s1, s2, s3, s4, s5, s6⟩ := hs r (by omega)
  obtain ⟨r1, r2, r3, r4⟩ := hk.2.1 r hr
  have e31 : ∀ y ∈ EE r, y < 2 ^ 31 := fun y hy => by have := r1.2 y hy; omega
  refine PM.at (pl := [some (.ref 57), some (.int (nI r)), some (.int (k))]) rfl rfl (by simp [wle, wen]) ?_
  generalize hEN : wEm X 0 0 _ = EN
  refine w_iload_n d_MO_edge_0 rfl ?_
  refine w_callS (as := [.int (nI r)]) (st := []) d_MO_edge_1 yM_MO_register l_MO_196 sM_MO_register rfl rfl (m_MO_regG (r := r) hr) (by decide) (by decide) (by decide) (by decide) (Nat.le_of_ble_eq_true rfl) ?_
  rintro _ h9_1 ⟨rfl, e9_1⟩
  rw [e9_1]
  refine w_eq (st' := [.int (nI 1)]) rfl ?_
  refine w_if_eq (tgt := 21) d_MO_edge_4 rfl (fun z => absurd z (by decide)) (fun _ => ?_)
  refine w_iload_n d_MO_edge_7 rfl ?_
  refine w_if_lt (tgt := 21) d_MO_edge_8 rfl (fun c8 => ?_) (fun c8 => ?_)
  · refine w_iconst (v := -1) d_MO_edge_21 (by decide) ?_
    refine w_goto (tgt := 37) d_MO_edge_22 rfl ?_
    rw [← hEN]
    refine w_iret d_MO_edge_37 rfl ?_
    first
    | (rw [if_pos c8]; exact ⟨rfl, rfl⟩)
    | (rw [if_neg c8, nI_clamp hj, hy]; exact ⟨rfl, rfl⟩)
    | (rw [if_neg c8, nI_clamp hj, List.getElem?_eq_none (by omega)]; exact ⟨rfl, rfl⟩)
  · obtain ⟨j, hj, rfl⟩ := nI_of c8
    refine w_iload_n d_MO_edge_11 rfl ?_
    refine w_aload_n d_MO_edge_12 rfl rfl ?_
    refine w_get d_MO_edge_13 f_MO_16 hx rfl ?_
    refine w_iload_n d_MO_edge_16 rfl ?_
    refine w_iald d_MO_edge_17 hb (vp_in_nI (by omega) (by decide)) ?_
    refine w_topi (y := nI (EE r).length) (by rw [nI_clamp (by omega)]; exact s1) ?_
    refine w_icmp_lt (tgt := 25) d_MO_edge_18 rfl (fun c18 => ?_) (fun c18 => ?_)
    · have c18 : j < (EE r).length := (nI_ltI hj (by omega)).mp c18
      obtain ⟨y, hy⟩ := t_at c18
      refine w_aload_n d_MO_edge_25 rfl rfl ?_
      refine w_get d_MO_edge_26 f_MO_13 hx rfl ?_
      refine w_sipush (v := nI 420) d_MO_edge_29 (by decide) ?_
      refine w_iload_n d_MO_edge_32 rfl ?_
      refine w_imul d_MO_edge_33 ?_
      refine w_topi (y := nI (420 * r)) (pk_mul 420 r) ?_
      refine w_iload_n d_MO_edge_34 rfl ?_
      refine w_iadd d_MO_edge_35 ?_
      refine w_topi (y := nI (420 * r + j)) (nI_add _ _) ?_
      refine w_iald d_MO_edge_36 ha (vp_in_nI (by omega) (by decide)) ?_
      refine w_topi (y := nI y) (by rw [nI_clamp (by omega)]; exact s5 _ _ hy) ?_
      rw [← hEN]
      refine w_iret d_MO_edge_37 rfl ?_
      first
      | (rw [if_pos c8]; exact ⟨rfl, rfl⟩)
      | (rw [if_neg c8, nI_clamp hj, hy]; exact ⟨rfl, rfl⟩)
      | (rw [if_neg c8, nI_clamp hj, List.getElem?_eq_none (by omega)]; exact ⟨rfl, rfl⟩)
    · have c18 : ¬ j < (EE r).length := fun z => c18 ((nI_ltI hj (by omega)).mpr z)
      refine w_iconst (v := -1) d_MO_edge_21 (by decide) ?_
      refine w_goto (tgt := 37) d_MO_edge_22 rfl ?_
      rw [← hEN]
      refine w_iret d_MO_edge_37 rfl ?_
      first
      | (rw [if_pos c8]; exact ⟨rfl, rfl⟩)
      | (rw [if_neg c8, nI_clamp hj, hy]; exact ⟨rfl, rfl⟩)
      | (rw [if_neg c8, nI_clamp hj, List.getElem?_eq_none (by omega)]; exact ⟨rfl, rfl⟩)
set_option maxHeartbeats 4000000 in
set_option maxRecDepth 100000 in
theorem m_MO_edgeB {h : wH} {t : List Nat} {EE SS : Nat → List Nat} (hm : hMO h t EE SS) {x y : Int32} (hxr : ¬ (0 ≤ x ∧ x < nI 3)) : PM X M_MO_edge 1 0 0 [.ref 57, .int (x), .int (y)] h (fun z h' => z = some (.int (-1)) ∧ h' = h) := by
  have hm0 := hm; obtain ⟨⟨ap, gd, dp, wr, fi, hx⟩, htx, hE, hA⟩ := hm
  refine PM.at (pl := [some (.ref 57), some (.int (x)), some (.int (y))]) rfl rfl (by simp [wle, wen]) ?_
  generalize hEN : wEm X 0 0 _ = EN
  refine w_iload_n d_MO_edge_0 rfl ?_
  refine w_callS (as := [.int (x)]) (st := []) d_MO_edge_1 yM_MO_register l_MO_196 sM_MO_register rfl rfl (m_MO_regB (x := x) hxr) (by decide) (by decide) (by decide) (by decide) (Nat.le_of_ble_eq_true rfl) ?_
  rintro _ h9_1 ⟨rfl, e9_1⟩
  rw [e9_1]
  refine w_eq (st' := [.int (nI 0)]) rfl ?_
  refine w_if_eq (tgt := 21) d_MO_edge_4 rfl (fun _ => ?_) (fun z => absurd (by decide) z)
  refine w_iconst (v := -1) d_MO_edge_21 (by decide) ?_
  refine w_goto (tgt := 37) d_MO_edge_22 rfl ?_
  rw [← hEN]
  refine w_iret d_MO_edge_37 rfl ?_
  exact ⟨rfl, rfl⟩
set_option maxHeartbeats 4000000 in
set_option maxRecDepth 100000 in
theorem m_MO_nthG {h : wH} {t : List Nat} {EE SS : Nat → List Nat} (hm : hMO h t EE SS) (hk : mOk t EE SS) {r r0 : Nat} (hr : r < 3) (hr0 : r0 < 2 ^ 31) : PM X M_MO_nth 1 0 0 [.ref 57, .int (nI r), .int (nI r0)] h (fun z h' => z = some (.int (match eNth (EE r) r0 with | some x => nI x | none => -1)) ∧ h' = h) := by
  have hm0 := hm; obtain ⟨⟨ap, gd, dp, wr, fi, hx⟩, htx, hE, hA⟩ := hm
  obtain ⟨ef, cf, sf, nf, ha, hb, hc, hd, hs⟩ := id hE
  obtain ⟨s1, s2, s3, s4, s5, s6⟩ := hs r (by omega)
  obtain ⟨r1, r2, r3, r4⟩ := hk.2.1 r hr
  have e31 : ∀ y ∈ EE r, y < 2 ^ 31 := fun y hy => by have := r1.2 y hy; omega
  refine PM.at (pl := [some (.ref 57), some (.int (nI r)), some (.int (nI r0)), none, none, none, none]) rfl rfl (by simp [wle, wen]) ?_
  generalize hEN : wEm X 0 0 _ = EN
  have L : ∀ (n : Nat) (i left : Nat), ((EE r).length - i < n) → (i ≤ (EE r).length + 1) → (left < 2 ^ 31) → (eNth ((EE r).drop i) left = eNth (EE r) r0) → WP X M_MO_nth (wR 1 0 0) 0 EN 0 0 18 [some (.ref 57), some (.int (nI r)), some (.int (nI r0)), some (.int (nI left)), some (.int (nI i)), none, none] [] h := by
    intro n
    induction n with
    | zero => intro i left h1 h2 h4 h3; omega
    | succ n ih =>
      intro i left h1 h2 h4 h3
      refine w_iload d_MO_nth_18 rfl ?_
      refine w_iconst (v := nI 1) d_MO_nth_20 (by decide) ?_
      refine w_iadd d_MO_nth_21 ?_
      refine w_topi (y := nI (i + 1)) (nI_add _ _) ?_
      refine w_aload_n d_MO_nth_22 rfl rfl ?_
      refine w_get d_MO_nth_23 f_MO_16 hx rfl ?_
      refine w_iload_n d_MO_nth_26 rfl ?_
      refine w_iald d_MO_nth_27 hb (vp_in_nI (by omega) (by decide)) ?_
      refine w_topi (y := nI (EE r).length) (by rw [nI_clamp (by omega)]; exact s1) ?_
      refine w_icmp_ge (tgt := 88) d_MO_nth_28 rfl (fun c28 => ?_) (fun c28 => ?_)
      · have c28 := (nI_leI (a := (EE r).length) (b := i + 1) (by omega) (by omega)).mp c28
        refine w_iconst (v := -1) d_MO_nth_88 (by decide) ?_
        rw [← hEN]
        refine w_iret d_MO_nth_89 rfl ?_
        rw [eNth_short (by rw [List.length_drop]; omega)] at h3
        rw [← h3]
        exact ⟨rfl, rfl⟩
      · have c28 : i + 1 < (EE r).length := Nat.not_le.mp (fun z => c28 ((nI_leI (a := (EE r).length) (b := i + 1) (by omega) (by omega)).mpr z))
        obtain ⟨a, b, hab, ha1, hb1, hdr⟩ := eDrop2 r1.1 c28
        have hb31 := e31 b (List.mem_of_getElem? hb1)
        rw [hdr] at h3
        simp only [eNth] at h3
        refine w_aload_n d_MO_nth_31 rfl rfl ?_
        refine w_get d_MO_nth_32 f_MO_13 hx rfl ?_
        refine w_sipush (v := nI 420) d_MO_nth_35 (by decide) ?_
        refine w_iload_n d_MO_nth_38 rfl ?_
        refine w_imul d_MO_nth_39 ?_
        refine w_topi (y := nI (420 * r)) (pk_mul 420 r) ?_
        refine w_iload d_MO_nth_40 rfl ?_
        refine w_iadd d_MO_nth_42 ?_
        refine w_topi (y := nI (420 * r + i)) (nI_add _ _) ?_
        refine w_iald d_MO_nth_43 ha (vp_in_nI (by omega) (by decide)) ?_
        refine w_topi (y := nI a) (by rw [nI_clamp (by omega)]; exact s5 _ _ ha1) ?_
        refine w_istore d_MO_nth_44 (by decide) ?_
        refine w_pl (pl' := [some (.ref 57), some (.int (nI r)), some (.int (nI r0)), some (.int (nI left)), some (.int (nI i)), some (.int (nI a)), none]) rfl ?_
        refine w_aload_n d_MO_nth_46 rfl rfl ?_
        refine w_get d_MO_nth_47 f_MO_13 hx rfl ?_
        refine w_sipush (v := nI 420) d_MO_nth_50 (by decide) ?_
        refine w_iload_n d_MO_nth_53 rfl ?_
        refine w_imul d_MO_nth_54 ?_
        refine w_topi (y := nI (420 * r)) (pk_mul 420 r) ?_
        refine w_iload d_MO_nth_55 rfl ?_
        refine w_iadd d_MO_nth_57 ?_
        refine w_topi (y := nI (420 * r + i)) (nI_add _ _) ?_
        refine w_iconst (v := nI 1) d_MO_nth_58 (by decide) ?_
        refine w_iadd d_MO_nth_59 ?_
        refine w_topi (y := nI (420 * r + i + 1)) (nI_add _ _) ?_
        refine w_iald d_MO_nth_60 ha (vp_in_nI (by omega) (by decide)) ?_
        refine w_topi (y := nI b) (by rw [nI_clamp (by omega)]; exact s5 _ _ hb1) ?_
        refine w_iload d_MO_nth_61 rfl ?_
        refine w_isub d_MO_nth_63 ?_
        refine w_topi (y := nI (b - a)) (pk_sub (Nat.le_of_lt hab)) ?_
        refine w_istore d_MO_nth_64 (by decide) ?_
        refine w_pl (pl' := [some (.ref 57), some (.int (nI r)), some (.int (nI r0)), some (.int (nI left)), some (.int (nI i)), some (.int (nI a)), some (.int (nI (b - a)))]) rfl ?_
        refine w_iload_n d_MO_nth_66 rfl ?_
        refine w_iload d_MO_nth_67 rfl ?_
        refine w_icmp_ge (tgt := 77) d_MO_nth_69 rfl (fun c69 => ?_) (fun c69 => ?_)
        · have c69 : ¬ left < b - a := Nat.not_lt.mpr ((nI_leI (a := b - a) (b := left) (by omega) h4).mp c69)
          rw [if_neg c69] at h3
          refine w_iload_n d_MO_nth_77 rfl ?_
          refine w_iload d_MO_nth_78 rfl ?_
          refine w_isub d_MO_nth_80 ?_
          refine w_topi (y := nI (left - (b - a))) (pk_sub (by omega)) ?_
          refine w_istore_n d_MO_nth_81 (by decide) ?_
          refine w_pl (pl' := [some (.ref 57), some (.int (nI r)), some (.int (nI r0)), some (.int (nI (left - (b - a)))), some (.int (nI i)), some (.int (nI a)), some (.int (nI (b - a)))]) rfl ?_
          refine w_iinc (v := nI (i + 2)) d_MO_nth_82 rfl (nI_add i 2) (by decide) ?_
          refine w_pl (pl' := [some (.ref 57), some (.int (nI r)), some (.int (nI r0)), some (.int (nI (left - (b - a)))), some (.int (nI (i + 2))), some (.int (nI a)), some (.int (nI (b - a)))]) rfl ?_
          refine w_goto (tgt := 18) d_MO_nth_85 rfl ?_
          refine w_le (pl' := [some (.ref 57), some (.int (nI r)), some (.int (nI r0)), some (.int (nI (left - (b - a)))), some (.int (nI (i + 2))), none, none]) ⟨rfl, rfl, rfl, rfl, rfl, trivial⟩ ?_
          exact ih (i + 2) (left - (b - a)) (by omega) (by omega) (by omega) h3
        · have c69 : left < b - a := Nat.not_le.mp (fun z => c69 ((nI_leI (a := b - a) (b := left) (by omega) h4).mpr z))
          rw [if_pos c69] at h3
          refine w_iload d_MO_nth_72 rfl ?_
          refine w_iload_n d_MO_nth_74 rfl ?_
          refine w_iadd d_MO_nth_75 ?_
          refine w_topi (y := nI (a + left)) (nI_add _ _) ?_
          rw [← hEN]
          refine w_iret d_MO_nth_76 rfl ?_
          rw [← h3]
          exact ⟨rfl, rfl⟩
  refine w_iload_n d_MO_nth_0 rfl ?_
  refine w_callS (as := [.int (nI r)]) (st := []) d_MO_nth_1 yM_MO_register l_MO_196 sM_MO_register rfl rfl (m_MO_regG (r := r) hr) (by decide) (by decide) (by decide) (by decide) (Nat.le_of_ble_eq_true rfl) ?_
  rintro _ h9_1 ⟨rfl, e9_1⟩
  rw [e9_1]
  refine w_eq (st' := [.int (nI 1)]) rfl ?_
  refine w_if_eq (tgt := 11) d_MO_nth_4 rfl (fun z => absurd z (by decide)) (fun _ => ?_)
  refine w_iload_n d_MO_nth_7 rfl ?_
  refine w_if_ge (tgt := 13) d_MO_nth_8 rfl (fun _ => ?_) (fun z => absurd (nI_pos' hr0) z)
  refine w_iload_n d_MO_nth_13 rfl ?_
  refine w_istore_n d_MO_nth_14 (by decide) ?_
  refine w_pl (pl' := [some (.ref 57), some (.int (nI r)), some (.int (nI r0)), some (.int (nI r0)), none, none, none]) rfl ?_
  refine w_iconst (v := nI 0) d_MO_nth_15 (by decide) ?_
  refine w_istore d_MO_nth_16 (by decide) ?_
  refine w_pl (pl' := [some (.ref 57), some (.int (nI r)), some (.int (nI r0)), some (.int (nI r0)), some (.int (nI 0)), none, none]) rfl ?_
  exact L ((EE r).length + 1) 0 r0 (by omega) (by omega) hr0 (by rw [List.drop_zero])
set_option maxHeartbeats 4000000 in
set_option maxRecDepth 100000 in
theorem m_MO_nthB {h : wH} {t : List Nat} {EE SS : Nat → List Nat} (hm : hMO h t EE SS) {x y : Int32} (hxr : ¬ (0 ≤ x ∧ x < nI 3)) : PM X M_MO_nth 1 0 0 [.ref 57, .int (x), .int (y)] h (fun z h' => z = some (.int (-1)) ∧ h' = h) := by
  have hm0 := hm; obtain ⟨⟨ap, gd, dp, wr, fi, hx⟩, htx, hE, hA⟩ := hm
  refine PM.at (pl := [some (.ref 57), some (.int (x)), some (.int (y)), none, none, none, none]) rfl rfl (by simp [wle, wen]) ?_
  generalize hEN : wEm X 0 0 _ = EN
  refine w_iload_n d_MO_nth_0 rfl ?_
  refine w_callS (as := [.int (x)]) (st := []) d_MO_nth_1 yM_MO_register l_MO_196 sM_MO_register rfl rfl (m_MO_regB (x := x) hxr) (by decide) (by decide) (by decide) (by decide) (Nat.le_of_ble_eq_true rfl) ?_
  rintro _ h9_1 ⟨rfl, e9_1⟩
  rw [e9_1]
  refine w_eq (st' := [.int (nI 0)]) rfl ?_
  refine w_if_eq (tgt := 11) d_MO_nth_4 rfl (fun _ => ?_) (fun z => absurd (by decide) z)
  refine w_iconst (v := -1) d_MO_nth_11 (by decide) ?_
  rw [← hEN]
  refine w_iret d_MO_nth_12 rfl ?_
  exact ⟨rfl, rfl⟩
set_option maxHeartbeats 4000000 in
set_option maxRecDepth 100000 in
theorem m_MO_nthC {h : wH} {t : List Nat} {EE SS : Nat → List Nat} (hm : hMO h t EE SS) {r : Nat} {y : Int32} (hr : r < 3) (hy : y < 0) : PM X M_MO_nth 1 0 0 [.ref 57, .int (nI r), .int (y)] h (fun z h' => z = some (.int (-1)) ∧ h' = h) := by
  have hm0 := hm; obtain ⟨⟨ap, gd, dp, wr, fi, hx⟩, htx, hE, hA⟩ := hm
  refine PM.at (pl := [some (.ref 57), some (.int (nI r)), some (.int (y)), none, none, none, none]) rfl rfl (by simp [wle, wen]) ?_
  generalize hEN : wEm X 0 0 _ = EN
  refine w_iload_n d_MO_nth_0 rfl ?_
  refine w_callS (as := [.int (nI r)]) (st := []) d_MO_nth_1 yM_MO_register l_MO_196 sM_MO_register rfl rfl (m_MO_regG (r := r) hr) (by decide) (by decide) (by decide) (by decide) (Nat.le_of_ble_eq_true rfl) ?_
  rintro _ h9_1 ⟨rfl, e9_1⟩
  rw [e9_1]
  refine w_eq (st' := [.int (nI 1)]) rfl ?_
  refine w_if_eq (tgt := 11) d_MO_nth_4 rfl (fun z => absurd z (by decide)) (fun _ => ?_)
  refine w_iload_n d_MO_nth_7 rfl ?_
  refine w_if_ge (tgt := 13) d_MO_nth_8 rfl (fun z => absurd z (Int32.not_le.mpr hy)) (fun _ => ?_)
  refine w_iconst (v := -1) d_MO_nth_11 (by decide) ?_
  rw [← hEN]
  refine w_iret d_MO_nth_12 rfl ?_
  exact ⟨rfl, rfl⟩
end MO5
