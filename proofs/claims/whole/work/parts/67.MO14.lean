/-! the reference's brackets end: written by wip/gen/mo14.py -/
theorem rEnd_T0 {B : Nat → Br} {j p : Nat} (h1 : (B j).2.1 = true) (h2 : ¬ (B j).1.2 = []) : rEnd B (j + 1) p = none := by unfold rEnd; dsimp only; rw [if_pos h1, if_neg h2]
theorem rEnd_T1 {B : Nat → Br} {j p : Nat} (h1 : (B j).2.1 = true) (h2 : (B j).1.2 = []) : rEnd B (j + 1) p = rJoin (bUp B j ((eCmb 3 (B j).1.1 [0, 1114112], []), (B j).2)) j (p + 1) (eCmb 3 (B j).1.1 [0, 1114112], []) true := by
  have e : rEnd B (j + 1) p = if (B j).2.1 = true then (if (B j).1.2 = [] then rJoin (bUp B j ((eCmb 3 (B j).1.1 [0, 1114112], []), (B j).2)) j (p + 1) (eCmb 3 (B j).1.1 [0, 1114112], []) true else none) else rJoin B j (p + 1) (B j).1 true := rfl
  rw [e, if_pos h1, if_pos h2]
theorem rEnd_F {B : Nat → Br} {j p : Nat} (h1 : (B j).2.1 = false) : rEnd B (j + 1) p = rJoin B j (p + 1) (B j).1 true := by unfold rEnd; dsimp only; rw [if_neg (by rw [h1]; decide)]
theorem rJoin_0 (B : Nat → Br) (nx : Nat) (I : List Nat × List Nat) (z : Bool) : rJoin B 0 nx I z = some (B, 0, nx, I) := rfl
theorem mE.k2 {h h' : wH} {EE SS : Nat → List Nat} (a : mE h EE SS) (c : ∀ j, 59 ≤ j → j < 63 → h'[j]? = h[j]?) : mE h' EE SS := by
  obtain ⟨ef, cf, sf, nf, h1, h2, h3, h4, h5⟩ := a
  exact ⟨ef, cf, sf, nf, (c _ (by omega) (by omega)).trans h1, (c _ (by omega) (by omega)).trans h2, (c _ (by omega) (by omega)).trans h3, (c _ (by omega) (by omega)).trans h4, h5⟩
theorem mT.k2 {h h' : wH} {t : List Nat} (a : mT h t) (c : h'[58]? = h[58]?) : mT h' t := by
  obtain ⟨f, h1, h2⟩ := a
  exact ⟨f, c.trans h1, h2⟩
theorem ex_k {h h' : wH} {k n m : Nat} (a : ∃ f : Nat → Int32, h[k]? = some (.inl (n, m, .inl f))) (c : h'[k]? = h[k]?) : ∃ f : Nat → Int32, h'[k]? = some (.inl (n, m, .inl f)) := by
  obtain ⟨f, a⟩ := a
  exact ⟨f, c.trans a⟩
/-- what the invariant says of one bracket -/
theorem pInv.at {t : List Nat} {B : Nat → Br} {d k : Nat} (h : pInv t B d k) (ht : t.length ≤ 60) {j : Nat} (hj : j < d) : eOk (B j).1.1 ∧ (B j).1.1.length ≤ 120 ∧ (∀ y ∈ (B j).1.2, sOk y) ∧ (B j).1.2.length ≤ 8 ∧ (B j).2.2.2.2 ≤ 3 := by
  obtain ⟨h1, h2, h3, h4, h5⟩ := h
  have q := h2 j hj
  have := eTot_le B d j hj
  exact ⟨q.1.1, by omega, q.1.2.2.1, q.1.2.2.2, q.2.1⟩
theorem all_ok : eOk [0, 1114112] := ⟨(by unfold eAsc; decide), (by decide)⟩
theorem Rl.lt {B B' : Nat → Br} {d d' : Nat} {EE SS : Nat → List Nat} {ft fb fs : Nat → Int32} (h : Rl B d EE SS ft fb fs) (hd : d' ≤ d) (hb : ∀ k, k < d' → B' k = B k) : Rl B' d' EE SS ft fb fs := fun k hk => by rw [hb k hk]; exact h k (by omega)
section MO14
variable {X : wX}
set_option maxHeartbeats 4000000 in
set_option maxRecDepth 100000 in
theorem m_MO_shutT0 {h : wH} {t : List Nat} {EE SS : Nat → List Nat} {ft fb fs : Nat → Int32} {p : Nat} {B : Nat → Br} (hq : hQ h t EE SS ft fb fs p true (0 + 1)) (hR : Rl B (0 + 1) EE SS ft fb fs) (hi : pInv t B (0 + 1) p) (h11 : EE 11 = [0, 1114112]) (s11 : SS 11 = []) (hoth : (B 0).2.1 = true) : PM X M_MO_shut 4 0 0 [.ref 57] h (pQ (rEnd B (0 + 1) p) h t EE SS) := by
  obtain ⟨⟨wr, fi, hx⟩, htx, hE, h63, h64, h65, h66, h67⟩ := hq
  obtain ⟨tf, tp, t60, thf⟩ := id htx
  obtain ⟨ef, cf, sf, nf, ha, hb, hc, hd, hs⟩ := id hE
  have hd5 := hi.1
  have hr := hR 0 (by omega)
  have hI := hi.at t60 (j := 0) (by omega)
  obtain ⟨s1, s2, s3, s4, s5, s6⟩ := hs (3 + 0) (by omega)
  have hsl := sR_len hr.2.1
  have hk60 := hi.2.2.2.1
  refine PM.at (pl := [some (.ref 57), none]) rfl rfl (by simp [wle, wen]) ?_
  generalize hEN : wEm X 0 0 _ = EN
  refine w_aload_n d_MO_shut_0 rfl rfl ?_
  refine w_aload_n d_MO_shut_1 rfl rfl ?_
  refine w_get d_MO_shut_2 f_MO_86 hx rfl ?_
  refine w_iconst (v := nI 1) d_MO_shut_5 (by decide) ?_
  refine w_iadd d_MO_shut_6 ?_
  refine w_topi (y := nI (p + 1)) (nI_1 _) ?_
  refine w_put d_MO_shut_7 f_MO_86 rfl hx rfl rfl rfl ?_
  refine w_nm (fun h1 e1 => ?_)
  have hx_1 := wS_eq e1 hx
  have hd_1 := wS_ne e1 (by omega) hd
  have h63_1 := wS_ne e1 (by omega) h63
  have h64_1 := wS_ne e1 (by omega) h64
  have h65_1 := wS_ne e1 (by omega) h65
  refine w_aload_n d_MO_shut_10 rfl rfl ?_
  refine w_callV (as := []) (st := []) d_MO_shut_11 yM_MO_level l_MO_152 vM_MO_level hx_1 rfl rfl rfl rfl (m_MO_level (j := 0) hx_1) (by decide) (by decide) (by decide) (by decide) (Nat.le_of_ble_eq_true rfl) ?_
  rintro _ h9_2 ⟨rfl, e9_2⟩
  rw [e9_2]
  refine w_eq (st' := [.int (nI (3 + 0))]) rfl ?_
  refine w_istore_n d_MO_shut_14 (by decide) ?_
  refine w_pl (pl' := [some (.ref 57), some (.int (nI (3 + 0)))]) rfl ?_
  refine w_aload_n d_MO_shut_15 rfl rfl ?_
  refine w_get d_MO_shut_16 f_MO_26 hx_1 rfl ?_
  refine w_aload_n d_MO_shut_19 rfl rfl ?_
  refine w_get d_MO_shut_20 f_MO_149 hx_1 rfl ?_
  refine w_zald d_MO_shut_23 h63_1 (vp_in_nI (by omega) (by decide)) ?_
  refine w_topi (y := nI 1) (by rw [nI_clamp (by omega), hr.2.2.1, hoth]; rfl) ?_
  refine w_if_eq (tgt := 60) d_MO_shut_24 rfl (fun z => absurd z (by decide)) (fun _ => ?_)
  refine w_aload_n d_MO_shut_27 rfl rfl ?_
  refine w_aload_n d_MO_shut_28 rfl rfl ?_
  refine w_get d_MO_shut_29 f_MO_93 hx_1 rfl ?_
  refine w_if_eq (tgt := 48) d_MO_shut_32 rfl (fun z => absurd z (by decide)) (fun _ => ?_)
  refine w_aload_n d_MO_shut_35 rfl rfl ?_
  refine w_get d_MO_shut_36 f_MO_23 hx_1 rfl ?_
  refine w_iload_n d_MO_shut_39 rfl ?_
  refine w_iald d_MO_shut_40 hd_1 (vp_in_nI (by omega) (by decide)) ?_
  refine w_topi (y := nI (SS (3 + 0)).length) (by rw [nI_clamp (by omega)]; exact s2) ?_
  refine w_if_ne (tgt := 48) d_MO_shut_41 rfl (fun c41 => ?_) (fun c41 => ?_)
  · have hne : ¬ (B 0).1.2 = [] := fun z => c41 (by rw [z] at hsl; rw [← hsl]; rfl)
    refine w_iconst (v := nI 0) d_MO_shut_48 (by decide) ?_
    refine w_put d_MO_shut_49 f_MO_93 rfl hx_1 rfl rfl rfl ?_
    refine w_nm (fun h3 e3 => ?_)
    have hx_3 := wS_eq e3 hx_1
    have hd_3 := wS_ne e3 (by omega) hd_1
    have h63_3 := wS_ne e3 (by omega) h63_1
    have h64_3 := wS_ne e3 (by omega) h64_1
    have h65_3 := wS_ne e3 (by omega) h65_1
    refine w_aload_n d_MO_shut_52 rfl rfl ?_
    refine w_iload_n d_MO_shut_53 rfl ?_
    refine w_bipush (v := nI 11) d_MO_shut_54 (by decide) ?_
    refine w_iconst (v := nI 3) d_MO_shut_56 (by decide) ?_
    have K : ∀ q, q ≠ 57 → h3[q]? = h[q]? := fun q hq9 => by rw [wS_off e3 (by omega), wS_off e1 (by omega)]
    refine w_callV (as := [.int (nI (3 + 0)), .int (nI 11), .int (nI 3)]) (st := []) d_MO_shut_57 yM_MO_join l_MO_80 vM_MO_join hx_3 rfl rfl rfl rfl (m_MO_join (t := 3 + 0) (b := 11) (how := 3) hx_3 (hE.keep K) (by omega) (by decide) (by omega) (by decide) (by decide) (by rw [hr.1]; exact hI.1) (by rw [h11]; exact all_ok) (by rw [hr.1, h11]; have := hI.2.1; have e2 : [0, 1114112].length = 2 := rfl; omega) (sR_sOk hr.2.1 hI.2.2.1) (by rw [s11]; intro y hy; cases hy) (by rw [s11]; have := hI.2.2.2.1; have e2 : ([] : List Nat).length = 0 := rfl; omega)) (by decide) (by decide) (by decide) (by decide) (Nat.le_of_ble_eq_true rfl) ?_
    rintro _ g1 ⟨rfl, o1, F1, T1, e1, q1, r1, k1⟩
    have hx_g1 := (o1 57 (by omega)).trans hx_3
    have h63_g1 := (o1 63 (by omega)).trans h63_3
    have h64_g1 := (o1 64 (by omega)).trans h64_3
    have h65_g1 := (o1 65 (by omega)).trans h65_3
    refine w_eq (st' := []) rfl ?_
    have K1 : ∀ q, q ≠ 57 → (q < 59 ∨ 63 ≤ q) → g1[q]? = h[q]? := fun q h8 h9 => (o1 q (by omega)).trans (K q h8)
    refine w_aload_n d_MO_shut_60 rfl rfl ?_
    refine w_aload_n d_MO_shut_61 rfl rfl ?_
    refine w_get d_MO_shut_62 f_MO_149 hx_g1 rfl ?_
    refine w_iconst (v := nI 1) d_MO_shut_65 (by decide) ?_
    refine w_isub d_MO_shut_66 ?_
    refine w_topi (y := nI 0) (pk_sub (by omega)) ?_
    refine w_put d_MO_shut_67 f_MO_149 rfl hx_g1 rfl rfl rfl ?_
    refine w_nm (fun h4 e4 => ?_)
    have hx_4 := wS_eq e4 hx_g1
    have h63_4 := wS_ne e4 (by omega) h63_g1
    have h64_4 := wS_ne e4 (by omega) h64_g1
    have h65_4 := wS_ne e4 (by omega) h65_g1
    refine w_aload_n d_MO_shut_70 rfl rfl ?_
    refine w_get d_MO_shut_71 f_MO_149 hx_4 rfl ?_
    refine w_if_le (tgt := 89) d_MO_shut_74 rfl (fun _ => ?_) (fun z => absurd (by decide) z)
    rw [← hEN]
    refine w_vret d_MO_shut_89 rfl ?_
    have KK : ∀ q, q < 57 ∨ q = 58 ∨ 63 ≤ q → h4[q]? = h[q]? := fun q hq9 => by rw [wS_off e4 (by omega)]; exact K1 q (by omega) (by omega)
    have em9 : mE h4 F1 T1 := e1.keep (fun q hq9 => by rw [wS_off e4 (by omega)])
    have x9 : h4[57]? = some (.inr (7, [.ref 58, .int (nI t.length), .ref 59, .ref 60, .ref 61, .ref 62, .int (nI (p + 1)), .int (bI false), .int (nI 0), .ref 63, .ref 64, .ref 65, .ref 66, .int (wr), .int (fi), .ref 67])) := hx_4
    rw [rEnd_T0 hoth hne]
    exact pQ_no (hQ.x x9 (htx.k2 (KK 58 (by omega))) em9 ((KK 63 (by omega)).trans h63) ((KK 64 (by omega)).trans h64) ((KK 65 (by omega)).trans h65) (ex_k h66 (KK 66 (by omega))) (ex_k h67 (KK 67 (by omega)))) (fun q hq9 => KK q (by omega)) (fun q hq9 => k1 q (by omega) (by omega))
  · have hnl : (SS (3 + 0)).length = 0 := (nI_eq (a := (SS (3 + 0)).length) (b := 0) (by omega) (by decide)).mp c41
    have hn0 : (B 0).1.2 = [] := List.length_eq_zero_iff.mp (by omega)
    have hn1 : SS (3 + 0) = [] := List.length_eq_zero_iff.mp hnl
    refine w_iconst (v := nI 1) d_MO_shut_44 (by decide) ?_
    refine w_goto (tgt := 49) d_MO_shut_45 rfl ?_
    refine w_put d_MO_shut_49 f_MO_93 rfl hx_1 rfl rfl rfl ?_
    refine w_nm (fun h5 e5 => ?_)
    have hx_5 := wS_eq e5 hx_1
    have hd_5 := wS_ne e5 (by omega) hd_1
    have h63_5 := wS_ne e5 (by omega) h63_1
    have h64_5 := wS_ne e5 (by omega) h64_1
    have h65_5 := wS_ne e5 (by omega) h65_1
    refine w_aload_n d_MO_shut_52 rfl rfl ?_
    refine w_iload_n d_MO_shut_53 rfl ?_
    refine w_bipush (v := nI 11) d_MO_shut_54 (by decide) ?_
    refine w_iconst (v := nI 3) d_MO_shut_56 (by decide) ?_
    have K : ∀ q, q ≠ 57 → h5[q]? = h[q]? := fun q hq9 => by rw [wS_off e5 (by omega), wS_off e1 (by omega)]
    refine w_callV (as := [.int (nI (3 + 0)), .int (nI 11), .int (nI 3)]) (st := []) d_MO_shut_57 yM_MO_join l_MO_80 vM_MO_join hx_5 rfl rfl rfl rfl (m_MO_join (t := 3 + 0) (b := 11) (how := 3) hx_5 (hE.keep K) (by omega) (by decide) (by omega) (by decide) (by decide) (by rw [hr.1]; exact hI.1) (by rw [h11]; exact all_ok) (by rw [hr.1, h11]; have := hI.2.1; have e2 : [0, 1114112].length = 2 := rfl; omega) (sR_sOk hr.2.1 hI.2.2.1) (by rw [s11]; intro y hy; cases hy) (by rw [s11]; have := hI.2.2.2.1; have e2 : ([] : List Nat).length = 0 := rfl; omega)) (by decide) (by decide) (by decide) (by decide) (Nat.le_of_ble_eq_true rfl) ?_
    rintro _ g1 ⟨rfl, o1, F1, T1, e1, q1, r1, k1⟩
    have hx_g1 := (o1 57 (by omega)).trans hx_5
    have h63_g1 := (o1 63 (by omega)).trans h63_5
    have h64_g1 := (o1 64 (by omega)).trans h64_5
    have h65_g1 := (o1 65 (by omega)).trans h65_5
    refine w_eq (st' := []) rfl ?_
    have K1 : ∀ q, q ≠ 57 → (q < 59 ∨ 63 ≤ q) → g1[q]? = h[q]? := fun q h8 h9 => (o1 q (by omega)).trans (K q h8)
    refine w_aload_n d_MO_shut_60 rfl rfl ?_
    refine w_aload_n d_MO_shut_61 rfl rfl ?_
    refine w_get d_MO_shut_62 f_MO_149 hx_g1 rfl ?_
    refine w_iconst (v := nI 1) d_MO_shut_65 (by decide) ?_
    refine w_isub d_MO_shut_66 ?_
    refine w_topi (y := nI 0) (pk_sub (by omega)) ?_
    refine w_put d_MO_shut_67 f_MO_149 rfl hx_g1 rfl rfl rfl ?_
    refine w_nm (fun h6 e6 => ?_)
    have hx_6 := wS_eq e6 hx_g1
    have h63_6 := wS_ne e6 (by omega) h63_g1
    have h64_6 := wS_ne e6 (by omega) h64_g1
    have h65_6 := wS_ne e6 (by omega) h65_g1
    refine w_aload_n d_MO_shut_70 rfl rfl ?_
    refine w_get d_MO_shut_71 f_MO_149 hx_6 rfl ?_
    refine w_if_le (tgt := 89) d_MO_shut_74 rfl (fun _ => ?_) (fun z => absurd (by decide) z)
    rw [← hEN]
    refine w_vret d_MO_shut_89 rfl ?_
    have KK : ∀ q, q < 57 ∨ q = 58 ∨ 63 ≤ q → h6[q]? = h[q]? := fun q hq9 => by rw [wS_off e6 (by omega)]; exact K1 q (by omega) (by omega)
    have em9 : mE h6 F1 T1 := e1.keep (fun q hq9 => by rw [wS_off e6 (by omega)])
    have x9 : h6[57]? = some (.inr (7, [.ref 58, .int (nI t.length), .ref 59, .ref 60, .ref 61, .ref 62, .int (nI (p + 1)), .int (bI true), .int (nI 0), .ref 63, .ref 64, .ref 65, .ref 66, .int (wr), .int (fi), .ref 67])) := hx_6
    rw [rEnd_T1 hoth hn0, rJoin_0]
    refine ⟨rfl, fun q hq9 => KK q (by omega), F1, T1, ft, fb, fs, _, _, hQ.x x9 (htx.k2 (KK 58 (by omega))) em9 ((KK 63 (by omega)).trans h63) ((KK 64 (by omega)).trans h64) ((KK 65 (by omega)).trans h65) (ex_k h66 (KK 66 (by omega))) (ex_k h67 (KK 67 (by omega))), (fun q hq9 => k1 q (by omega) (by omega)), fun B9 d9 k9 V9 hz => ?_⟩
    cases hz
    refine ⟨rfl, rfl, fun k hk => by omega, fun _ => ⟨?_, ?_⟩⟩
    · show F1 (3 + 0) = eCmb 3 (B 0).1.1 [0, 1114112]
      rw [q1, hr.1, h11]
    · show sR [] (T1 (3 + 0))
      rw [r1, hn1, s11]
      exact sR_nil
set_option maxHeartbeats 4000000 in
set_option maxRecDepth 100000 in
theorem m_MO_shutT1 {h : wH} {t : List Nat} {EE SS : Nat → List Nat} {ft fb fs : Nat → Int32} {p : Nat} {B : Nat → Br} {i : Nat} (hq : hQ h t EE SS ft fb fs p true ((i + 1) + 1)) (hR : Rl B ((i + 1) + 1) EE SS ft fb fs) (hi : pInv t B ((i + 1) + 1) p) (h11 : EE 11 = [0, 1114112]) (s11 : SS 11 = []) (hoth : (B (i + 1)).2.1 = true) : PM X M_MO_shut 4 0 0 [.ref 57] h (pQ (rEnd B ((i + 1) + 1) p) h t EE SS) := by
  obtain ⟨⟨wr, fi, hx⟩, htx, hE, h63, h64, h65, h66, h67⟩ := hq
  obtain ⟨tf, tp, t60, thf⟩ := id htx
  obtain ⟨ef, cf, sf, nf, ha, hb, hc, hd, hs⟩ := id hE
  have hd5 := hi.1
  have hr := hR (i + 1) (by omega)
  have hI := hi.at t60 (j := (i + 1)) (by omega)
  obtain ⟨s1, s2, s3, s4, s5, s6⟩ := hs (3 + (i + 1)) (by omega)
  have hsl := sR_len hr.2.1
  have hk60 := hi.2.2.2.1
  have hr2 := hR i (by omega)
  have hI2 := hi.at t60 (j := i) (by omega)
  refine PM.at (pl := [some (.ref 57), none]) rfl rfl (by simp [wle, wen]) ?_
  generalize hEN : wEm X 0 0 _ = EN
  refine w_aload_n d_MO_shut_0 rfl rfl ?_
  refine w_aload_n d_MO_shut_1 rfl rfl ?_
  refine w_get d_MO_shut_2 f_MO_86 hx rfl ?_
  refine w_iconst (v := nI 1) d_MO_shut_5 (by decide) ?_
  refine w_iadd d_MO_shut_6 ?_
  refine w_topi (y := nI (p + 1)) (nI_1 _) ?_
  refine w_put d_MO_shut_7 f_MO_86 rfl hx rfl rfl rfl ?_
  refine w_nm (fun h1 e1 => ?_)
  have hx_1 := wS_eq e1 hx
  have hd_1 := wS_ne e1 (by omega) hd
  have h63_1 := wS_ne e1 (by omega) h63
  have h64_1 := wS_ne e1 (by omega) h64
  have h65_1 := wS_ne e1 (by omega) h65
  refine w_aload_n d_MO_shut_10 rfl rfl ?_
  refine w_callV (as := []) (st := []) d_MO_shut_11 yM_MO_level l_MO_152 vM_MO_level hx_1 rfl rfl rfl rfl (m_MO_level (j := (i + 1)) hx_1) (by decide) (by decide) (by decide) (by decide) (Nat.le_of_ble_eq_true rfl) ?_
  rintro _ h9_2 ⟨rfl, e9_2⟩
  rw [e9_2]
  refine w_eq (st' := [.int (nI (3 + (i + 1)))]) rfl ?_
  refine w_istore_n d_MO_shut_14 (by decide) ?_
  refine w_pl (pl' := [some (.ref 57), some (.int (nI (3 + (i + 1))))]) rfl ?_
  refine w_aload_n d_MO_shut_15 rfl rfl ?_
  refine w_get d_MO_shut_16 f_MO_26 hx_1 rfl ?_
  refine w_aload_n d_MO_shut_19 rfl rfl ?_
  refine w_get d_MO_shut_20 f_MO_149 hx_1 rfl ?_
  refine w_zald d_MO_shut_23 h63_1 (vp_in_nI (by omega) (by decide)) ?_
  refine w_topi (y := nI 1) (by rw [nI_clamp (by omega), hr.2.2.1, hoth]; rfl) ?_
  refine w_if_eq (tgt := 60) d_MO_shut_24 rfl (fun z => absurd z (by decide)) (fun _ => ?_)
  refine w_aload_n d_MO_shut_27 rfl rfl ?_
  refine w_aload_n d_MO_shut_28 rfl rfl ?_
  refine w_get d_MO_shut_29 f_MO_93 hx_1 rfl ?_
  refine w_if_eq (tgt := 48) d_MO_shut_32 rfl (fun z => absurd z (by decide)) (fun _ => ?_)
  refine w_aload_n d_MO_shut_35 rfl rfl ?_
  refine w_get d_MO_shut_36 f_MO_23 hx_1 rfl ?_
  refine w_iload_n d_MO_shut_39 rfl ?_
  refine w_iald d_MO_shut_40 hd_1 (vp_in_nI (by omega) (by decide)) ?_
  refine w_topi (y := nI (SS (3 + (i + 1))).length) (by rw [nI_clamp (by omega)]; exact s2) ?_
  refine w_if_ne (tgt := 48) d_MO_shut_41 rfl (fun c41 => ?_) (fun c41 => ?_)
  · have hne : ¬ (B (i + 1)).1.2 = [] := fun z => c41 (by rw [z] at hsl; rw [← hsl]; rfl)
    refine w_iconst (v := nI 0) d_MO_shut_48 (by decide) ?_
    refine w_put d_MO_shut_49 f_MO_93 rfl hx_1 rfl rfl rfl ?_
    refine w_nm (fun h3 e3 => ?_)
    have hx_3 := wS_eq e3 hx_1
    have hd_3 := wS_ne e3 (by omega) hd_1
    have h63_3 := wS_ne e3 (by omega) h63_1
    have h64_3 := wS_ne e3 (by omega) h64_1
    have h65_3 := wS_ne e3 (by omega) h65_1
    refine w_aload_n d_MO_shut_52 rfl rfl ?_
    refine w_iload_n d_MO_shut_53 rfl ?_
    refine w_bipush (v := nI 11) d_MO_shut_54 (by decide) ?_
    refine w_iconst (v := nI 3) d_MO_shut_56 (by decide) ?_
    have K : ∀ q, q ≠ 57 → h3[q]? = h[q]? := fun q hq9 => by rw [wS_off e3 (by omega), wS_off e1 (by omega)]
    refine w_callV (as := [.int (nI (3 + (i + 1))), .int (nI 11), .int (nI 3)]) (st := []) d_MO_shut_57 yM_MO_join l_MO_80 vM_MO_join hx_3 rfl rfl rfl rfl (m_MO_join (t := 3 + (i + 1)) (b := 11) (how := 3) hx_3 (hE.keep K) (by omega) (by decide) (by omega) (by decide) (by decide) (by rw [hr.1]; exact hI.1) (by rw [h11]; exact all_ok) (by rw [hr.1, h11]; have := hI.2.1; have e2 : [0, 1114112].length = 2 := rfl; omega) (sR_sOk hr.2.1 hI.2.2.1) (by rw [s11]; intro y hy; cases hy) (by rw [s11]; have := hI.2.2.2.1; have e2 : ([] : List Nat).length = 0 := rfl; omega)) (by decide) (by decide) (by decide) (by decide) (Nat.le_of_ble_eq_true rfl) ?_
    rintro _ g1 ⟨rfl, o1, F1, T1, e1, q1, r1, k1⟩
    have hx_g1 := (o1 57 (by omega)).trans hx_3
    have h63_g1 := (o1 63 (by omega)).trans h63_3
    have h64_g1 := (o1 64 (by omega)).trans h64_3
    have h65_g1 := (o1 65 (by omega)).trans h65_3
    refine w_eq (st' := []) rfl ?_
    have K1 : ∀ q, q ≠ 57 → (q < 59 ∨ 63 ≤ q) → g1[q]? = h[q]? := fun q h8 h9 => (o1 q (by omega)).trans (K q h8)
    refine w_aload_n d_MO_shut_60 rfl rfl ?_
    refine w_aload_n d_MO_shut_61 rfl rfl ?_
    refine w_get d_MO_shut_62 f_MO_149 hx_g1 rfl ?_
    refine w_iconst (v := nI 1) d_MO_shut_65 (by decide) ?_
    refine w_isub d_MO_shut_66 ?_
    refine w_topi (y := nI ((i + 1))) (pk_sub (by omega)) ?_
    refine w_put d_MO_shut_67 f_MO_149 rfl hx_g1 rfl rfl rfl ?_
    refine w_nm (fun h4 e4 => ?_)
    have hx_4 := wS_eq e4 hx_g1
    have h63_4 := wS_ne e4 (by omega) h63_g1
    have h64_4 := wS_ne e4 (by omega) h64_g1
    have h65_4 := wS_ne e4 (by omega) h65_g1
    refine w_aload_n d_MO_shut_70 rfl rfl ?_
    refine w_get d_MO_shut_71 f_MO_149 hx_4 rfl ?_
    refine w_if_le (tgt := 89) d_MO_shut_74 rfl (fun z => absurd z (fun z => by have := (nI_leI (a := i + 1) (b := 0) (by omega) (by decide)).mp z; omega)) (fun _ => ?_)
    refine w_aload_n d_MO_shut_77 rfl rfl ?_
    refine w_get d_MO_shut_78 f_MO_93 hx_4 rfl ?_
    refine w_if_eq (tgt := 89) d_MO_shut_81 rfl (fun _ => ?_) (fun z => absurd (by decide) z)
    rw [← hEN]
    refine w_vret d_MO_shut_89 rfl ?_
    have KK : ∀ q, q < 57 ∨ q = 58 ∨ 63 ≤ q → h4[q]? = h[q]? := fun q hq9 => by rw [wS_off e4 (by omega)]; exact K1 q (by omega) (by omega)
    have em9 : mE h4 F1 T1 := e1.keep (fun q hq9 => by rw [wS_off e4 (by omega)])
    have x9 : h4[57]? = some (.inr (7, [.ref 58, .int (nI t.length), .ref 59, .ref 60, .ref 61, .ref 62, .int (nI (p + 1)), .int (bI false), .int (nI (i + 1)), .ref 63, .ref 64, .ref 65, .ref 66, .int (wr), .int (fi), .ref 67])) := hx_4
    rw [rEnd_T0 hoth hne]
    exact pQ_no (hQ.x x9 (htx.k2 (KK 58 (by omega))) em9 ((KK 63 (by omega)).trans h63) ((KK 64 (by omega)).trans h64) ((KK 65 (by omega)).trans h65) (ex_k h66 (KK 66 (by omega))) (ex_k h67 (KK 67 (by omega)))) (fun q hq9 => KK q (by omega)) (fun q hq9 => k1 q (by omega) (by omega))
  · have hnl : (SS (3 + (i + 1))).length = 0 := (nI_eq (a := (SS (3 + (i + 1))).length) (b := 0) (by omega) (by decide)).mp c41
    have hn0 : (B (i + 1)).1.2 = [] := List.length_eq_zero_iff.mp (by omega)
    have hn1 : SS (3 + (i + 1)) = [] := List.length_eq_zero_iff.mp hnl
    refine w_iconst (v := nI 1) d_MO_shut_44 (by decide) ?_
    refine w_goto (tgt := 49) d_MO_shut_45 rfl ?_
    refine w_put d_MO_shut_49 f_MO_93 rfl hx_1 rfl rfl rfl ?_
    refine w_nm (fun h5 e5 => ?_)
    have hx_5 := wS_eq e5 hx_1
    have hd_5 := wS_ne e5 (by omega) hd_1
    have h63_5 := wS_ne e5 (by omega) h63_1
    have h64_5 := wS_ne e5 (by omega) h64_1
    have h65_5 := wS_ne e5 (by omega) h65_1
    refine w_aload_n d_MO_shut_52 rfl rfl ?_
    refine w_iload_n d_MO_shut_53 rfl ?_
    refine w_bipush (v := nI 11) d_MO_shut_54 (by decide) ?_
    refine w_iconst (v := nI 3) d_MO_shut_56 (by decide) ?_
    have K : ∀ q, q ≠ 57 → h5[q]? = h[q]? := fun q hq9 => by rw [wS_off e5 (by omega), wS_off e1 (by omega)]
    refine w_callV (as := [.int (nI (3 + (i + 1))), .int (nI 11), .int (nI 3)]) (st := []) d_MO_shut_57 yM_MO_join l_MO_80 vM_MO_join hx_5 rfl rfl rfl rfl (m_MO_join (t := 3 + (i + 1)) (b := 11) (how := 3) hx_5 (hE.keep K) (by omega) (by decide) (by omega) (by decide) (by decide) (by rw [hr.1]; exact hI.1) (by rw [h11]; exact all_ok) (by rw [hr.1, h11]; have := hI.2.1; have e2 : [0, 1114112].length = 2 := rfl; omega) (sR_sOk hr.2.1 hI.2.2.1) (by rw [s11]; intro y hy; cases hy) (by rw [s11]; have := hI.2.2.2.1; have e2 : ([] : List Nat).length = 0 := rfl; omega)) (by decide) (by decide) (by decide) (by decide) (Nat.le_of_ble_eq_true rfl) ?_
    rintro _ g1 ⟨rfl, o1, F1, T1, e1, q1, r1, k1⟩
    have hx_g1 := (o1 57 (by omega)).trans hx_5
    have h63_g1 := (o1 63 (by omega)).trans h63_5
    have h64_g1 := (o1 64 (by omega)).trans h64_5
    have h65_g1 := (o1 65 (by omega)).trans h65_5
    refine w_eq (st' := []) rfl ?_
    have K1 : ∀ q, q ≠ 57 → (q < 59 ∨ 63 ≤ q) → g1[q]? = h[q]? := fun q h8 h9 => (o1 q (by omega)).trans (K q h8)
    refine w_aload_n d_MO_shut_60 rfl rfl ?_
    refine w_aload_n d_MO_shut_61 rfl rfl ?_
    refine w_get d_MO_shut_62 f_MO_149 hx_g1 rfl ?_
    refine w_iconst (v := nI 1) d_MO_shut_65 (by decide) ?_
    refine w_isub d_MO_shut_66 ?_
    refine w_topi (y := nI ((i + 1))) (pk_sub (by omega)) ?_
    refine w_put d_MO_shut_67 f_MO_149 rfl hx_g1 rfl rfl rfl ?_
    refine w_nm (fun h6 e6 => ?_)
    have hx_6 := wS_eq e6 hx_g1
    have h63_6 := wS_ne e6 (by omega) h63_g1
    have h64_6 := wS_ne e6 (by omega) h64_g1
    have h65_6 := wS_ne e6 (by omega) h65_g1
    refine w_aload_n d_MO_shut_70 rfl rfl ?_
    refine w_get d_MO_shut_71 f_MO_149 hx_6 rfl ?_
    refine w_if_le (tgt := 89) d_MO_shut_74 rfl (fun z => absurd z (fun z => by have := (nI_leI (a := i + 1) (b := 0) (by omega) (by decide)).mp z; omega)) (fun _ => ?_)
    refine w_aload_n d_MO_shut_77 rfl rfl ?_
    refine w_get d_MO_shut_78 f_MO_93 hx_6 rfl ?_
    refine w_if_eq (tgt := 89) d_MO_shut_81 rfl (fun z => absurd z (by decide)) (fun _ => ?_)
    refine w_aload_n d_MO_shut_84 rfl rfl ?_
    refine w_iload_n d_MO_shut_85 rfl ?_
    have K2 : ∀ q, q ≠ 57 → h6[q]? = g1[q]? := fun q hq9 => by rw [wS_off e6 (by omega)]
    have em2 : mE h6 F1 T1 := e1.keep K2
    have E1 : F1 (3 + (i + 1)) = eCmb 3 (B (i + 1)).1.1 [0, 1114112] := by rw [q1, hr.1, h11]
    have S1 : T1 (3 + (i + 1)) = [] := by rw [r1, hn1, s11]; rfl
    have E2 : F1 (3 + i) = (B i).1.1 := (k1 (3 + i) (by omega) (by omega)).1.trans hr2.1
    have S2 : T1 (3 + i) = SS (3 + i) := (k1 (3 + i) (by omega) (by omega)).2
    refine w_callV (as := [.int (nI (3 + (i + 1)))]) (st := []) d_MO_shut_86 yM_MO_takeSet l_MO_159 vM_MO_takeSet hx_6 rfl rfl rfl rfl (m_MO_takeSet (g := true) (j := i) (m := 3 + (i + 1)) (how := (B i).2.2.2.2) hx_6 em2 (by omega) h64_6 h65_6 hr2.2.2.2.2 (by omega) (by omega) hI2.2.2.2.2 (by rw [E2]; exact hI2.1) (by rw [E1]; exact eCmb_ok _ _ _) (by rw [E1, E2]; have := hI2.2.1; have e0 := hI.2.1; have e1 := eCmb_len 3 (B (i + 1)).1.1 [0, 1114112]; have e2 : [0, 1114112].length = 2 := rfl; omega) (by rw [S2]; exact sR_sOk hr2.2.1 hI2.2.2.1) (by rw [S1]; intro y hy; cases hy) (by rw [S1, S2, ← sR_len hr2.2.1]; have := hI2.2.2.2.1; have e2 : ([] : List Nat).length = 0 := rfl; omega)) (by decide) (by decide) (by decide) (by decide) (Nat.le_of_ble_eq_true rfl) ?_
    rintro _ g3 ⟨rfl, k3, F3, T3, fb3, fs3, x3, e3, a3, b3, q3, r3, j3, u3, v3, w3⟩
    refine w_eq (st' := []) rfl ?_
    rw [← hEN]
    refine w_vret d_MO_shut_89 rfl ?_
    have KK : ∀ q, q < 57 ∨ q = 58 ∨ q = 63 ∨ 66 ≤ q → g3[q]? = h[q]? := fun q hq9 => (k3 q hq9).trans ((K2 q (by omega)).trans (K1 q (by omega) (by omega)))
    rw [rEnd_T1 hoth hn0]
    have hR2 : Rl (bUp B (i + 1) ((eCmb 3 (B (i + 1)).1.1 [0, 1114112], []), (B (i + 1)).2)) (i + 1) EE SS ft fb fs := hR.lt (by omega) (fun k hk => bUp_ne _ _ (by omega))
    have hBi : bUp B (i + 1) ((eCmb 3 (B (i + 1)).1.1 [0, 1114112], []), (B (i + 1)).2) i = B i := bUp_ne _ _ (by omega)
    refine pQ_join (EE0 := EE) (SS0 := SS) (fb0 := fb) (fs0 := fs) hR2 (hQ.x x3 (htx.k2 (KK 58 (by omega))) e3 ((KK 63 (by omega)).trans h63) a3 b3 (ex_k h66 (KK 66 (by omega))) (ex_k h67 (KK 67 (by omega)))) (Bool.true_and _) ?_ ?_ (fun q hq9 => ?_) u3 v3 w3 (fun q hq9 => KK q (by omega)) (fun q hq9 => ?_)
    · rw [hBi, q3, E1, E2]
    · rw [hBi, r3, S1, S2]; exact sR_mk hr2.2.1 sR_nil
    · have z1 := j3 (3 + q) (by omega) (by omega)
      have z2 := k1 (3 + q) (by omega) (by omega)
      exact ⟨z1.1.trans z2.1, z1.2.trans z2.2⟩
    · have z1 := j3 q (by omega) (by omega)
      have z2 := k1 q (by omega) (by omega)
      exact ⟨z1.1.trans z2.1, z1.2.trans z2.2⟩
set_option maxHeartbeats 4000000 in
set_option maxRecDepth 100000 in
theorem m_MO_shutF0 {h : wH} {t : List Nat} {EE SS : Nat → List Nat} {ft fb fs : Nat → Int32} {p : Nat} {B : Nat → Br} (hq : hQ h t EE SS ft fb fs p true (0 + 1)) (hR : Rl B (0 + 1) EE SS ft fb fs) (hi : pInv t B (0 + 1) p) (h11 : EE 11 = [0, 1114112]) (s11 : SS 11 = []) (hoth : (B 0).2.1 = false) : PM X M_MO_shut 4 0 0 [.ref 57] h (pQ (rEnd B (0 + 1) p) h t EE SS) := by
  obtain ⟨⟨wr, fi, hx⟩, htx, hE, h63, h64, h65, h66, h67⟩ := hq
  obtain ⟨tf, tp, t60, thf⟩ := id htx
  obtain ⟨ef, cf, sf, nf, ha, hb, hc, hd, hs⟩ := id hE
  have hd5 := hi.1
  have hr := hR 0 (by omega)
  have hI := hi.at t60 (j := 0) (by omega)
  obtain ⟨s1, s2, s3, s4, s5, s6⟩ := hs (3 + 0) (by omega)
  have hsl := sR_len hr.2.1
  have hk60 := hi.2.2.2.1
  refine PM.at (pl := [some (.ref 57), none]) rfl rfl (by simp [wle, wen]) ?_
  generalize hEN : wEm X 0 0 _ = EN
  refine w_aload_n d_MO_shut_0 rfl rfl ?_
  refine w_aload_n d_MO_shut_1 rfl rfl ?_
  refine w_get d_MO_shut_2 f_MO_86 hx rfl ?_
  refine w_iconst (v := nI 1) d_MO_shut_5 (by decide) ?_
  refine w_iadd d_MO_shut_6 ?_
  refine w_topi (y := nI (p + 1)) (nI_1 _) ?_
  refine w_put d_MO_shut_7 f_MO_86 rfl hx rfl rfl rfl ?_
  refine w_nm (fun h1 e1 => ?_)
  have hx_1 := wS_eq e1 hx
  have hd_1 := wS_ne e1 (by omega) hd
  have h63_1 := wS_ne e1 (by omega) h63
  have h64_1 := wS_ne e1 (by omega) h64
  have h65_1 := wS_ne e1 (by omega) h65
  refine w_aload_n d_MO_shut_10 rfl rfl ?_
  refine w_callV (as := []) (st := []) d_MO_shut_11 yM_MO_level l_MO_152 vM_MO_level hx_1 rfl rfl rfl rfl (m_MO_level (j := 0) hx_1) (by decide) (by decide) (by decide) (by decide) (Nat.le_of_ble_eq_true rfl) ?_
  rintro _ h9_2 ⟨rfl, e9_2⟩
  rw [e9_2]
  refine w_eq (st' := [.int (nI (3 + 0))]) rfl ?_
  refine w_istore_n d_MO_shut_14 (by decide) ?_
  refine w_pl (pl' := [some (.ref 57), some (.int (nI (3 + 0)))]) rfl ?_
  refine w_aload_n d_MO_shut_15 rfl rfl ?_
  refine w_get d_MO_shut_16 f_MO_26 hx_1 rfl ?_
  refine w_aload_n d_MO_shut_19 rfl rfl ?_
  refine w_get d_MO_shut_20 f_MO_149 hx_1 rfl ?_
  refine w_zald d_MO_shut_23 h63_1 (vp_in_nI (by omega) (by decide)) ?_
  refine w_topi (y := nI 0) (by rw [nI_clamp (by omega), hr.2.2.1, hoth]; rfl) ?_
  refine w_if_eq (tgt := 60) d_MO_shut_24 rfl (fun _ => ?_) (fun z => absurd (by decide) z)
  refine w_aload_n d_MO_shut_60 rfl rfl ?_
  refine w_aload_n d_MO_shut_61 rfl rfl ?_
  refine w_get d_MO_shut_62 f_MO_149 hx_1 rfl ?_
  refine w_iconst (v := nI 1) d_MO_shut_65 (by decide) ?_
  refine w_isub d_MO_shut_66 ?_
  refine w_topi (y := nI 0) (pk_sub (by omega)) ?_
  refine w_put d_MO_shut_67 f_MO_149 rfl hx_1 rfl rfl rfl ?_
  refine w_nm (fun h3 e3 => ?_)
  have hx_3 := wS_eq e3 hx_1
  have hd_3 := wS_ne e3 (by omega) hd_1
  have h63_3 := wS_ne e3 (by omega) h63_1
  have h64_3 := wS_ne e3 (by omega) h64_1
  have h65_3 := wS_ne e3 (by omega) h65_1
  refine w_aload_n d_MO_shut_70 rfl rfl ?_
  refine w_get d_MO_shut_71 f_MO_149 hx_3 rfl ?_
  refine w_if_le (tgt := 89) d_MO_shut_74 rfl (fun _ => ?_) (fun z => absurd (by decide) z)
  rw [← hEN]
  refine w_vret d_MO_shut_89 rfl ?_
  have KK : ∀ q, q < 57 ∨ q = 58 ∨ 63 ≤ q → h3[q]? = h[q]? := fun q hq9 => by rw [wS_off e3 (by omega), wS_off e1 (by omega)]
  have em9 : mE h3 EE SS := hE.keep (fun q hq9 => by rw [wS_off e3 (by omega), wS_off e1 (by omega)])
  have x9 : h3[57]? = some (.inr (7, [.ref 58, .int (nI t.length), .ref 59, .ref 60, .ref 61, .ref 62, .int (nI (p + 1)), .int (bI true), .int (nI 0), .ref 63, .ref 64, .ref 65, .ref 66, .int (wr), .int (fi), .ref 67])) := hx_3
  rw [rEnd_F hoth, rJoin_0]
  refine ⟨rfl, fun q hq9 => KK q (by omega), EE, SS, ft, fb, fs, _, _, hQ.x x9 (htx.k2 (KK 58 (by omega))) em9 ((KK 63 (by omega)).trans h63) ((KK 64 (by omega)).trans h64) ((KK 65 (by omega)).trans h65) (ex_k h66 (KK 66 (by omega))) (ex_k h67 (KK 67 (by omega))), (fun _ _ => ⟨rfl, rfl⟩), fun B9 d9 k9 V9 hz => ?_⟩
  cases hz
  exact ⟨rfl, rfl, fun k hk => by omega, fun _ => ⟨hr.1, hr.2.1⟩⟩
set_option maxHeartbeats 4000000 in
set_option maxRecDepth 100000 in
theorem m_MO_shutF1 {h : wH} {t : List Nat} {EE SS : Nat → List Nat} {ft fb fs : Nat → Int32} {p : Nat} {B : Nat → Br} {i : Nat} (hq : hQ h t EE SS ft fb fs p true ((i + 1) + 1)) (hR : Rl B ((i + 1) + 1) EE SS ft fb fs) (hi : pInv t B ((i + 1) + 1) p) (h11 : EE 11 = [0, 1114112]) (s11 : SS 11 = []) (hoth : (B (i + 1)).2.1 = false) : PM X M_MO_shut 4 0 0 [.ref 57] h (pQ (rEnd B ((i + 1) + 1) p) h t EE SS) := by
  obtain ⟨⟨wr, fi, hx⟩, htx, hE, h63, h64, h65, h66, h67⟩ := hq
  obtain ⟨tf, tp, t60, thf⟩ := id htx
  obtain ⟨ef, cf, sf, nf, ha, hb, hc, hd, hs⟩ := id hE
  have hd5 := hi.1
  have hr := hR (i + 1) (by omega)
  have hI := hi.at t60 (j := (i + 1)) (by omega)
  obtain ⟨s1, s2, s3, s4, s5, s6⟩ := hs (3 + (i + 1)) (by omega)
  have hsl := sR_len hr.2.1
  have hk60 := hi.2.2.2.1
  have hr2 := hR i (by omega)
  have hI2 := hi.at t60 (j := i) (by omega)
  refine PM.at (pl := [some (.ref 57), none]) rfl rfl (by simp [wle, wen]) ?_
  generalize hEN : wEm X 0 0 _ = EN
  refine w_aload_n d_MO_shut_0 rfl rfl ?_
  refine w_aload_n d_MO_shut_1 rfl rfl ?_
  refine w_get d_MO_shut_2 f_MO_86 hx rfl ?_
  refine w_iconst (v := nI 1) d_MO_shut_5 (by decide) ?_
  refine w_iadd d_MO_shut_6 ?_
  refine w_topi (y := nI (p + 1)) (nI_1 _) ?_
  refine w_put d_MO_shut_7 f_MO_86 rfl hx rfl rfl rfl ?_
  refine w_nm (fun h1 e1 => ?_)
  have hx_1 := wS_eq e1 hx
  have hd_1 := wS_ne e1 (by omega) hd
  have h63_1 := wS_ne e1 (by omega) h63
  have h64_1 := wS_ne e1 (by omega) h64
  have h65_1 := wS_ne e1 (by omega) h65
  refine w_aload_n d_MO_shut_10 rfl rfl ?_
  refine w_callV (as := []) (st := []) d_MO_shut_11 yM_MO_level l_MO_152 vM_MO_level hx_1 rfl rfl rfl rfl (m_MO_level (j := (i + 1)) hx_1) (by decide) (by decide) (by decide) (by decide) (Nat.le_of_ble_eq_true rfl) ?_
  rintro _ h9_2 ⟨rfl, e9_2⟩
  rw [e9_2]
  refine w_eq (st' := [.int (nI (3 + (i + 1)))]) rfl ?_
  refine w_istore_n d_MO_shut_14 (by decide) ?_
  refine w_pl (pl' := [some (.ref 57), some (.int (nI (3 + (i + 1))))]) rfl ?_
  refine w_aload_n d_MO_shut_15 rfl rfl ?_
  refine w_get d_MO_shut_16 f_MO_26 hx_1 rfl ?_
  refine w_aload_n d_MO_shut_19 rfl rfl ?_
  refine w_get d_MO_shut_20 f_MO_149 hx_1 rfl ?_
  refine w_zald d_MO_shut_23 h63_1 (vp_in_nI (by omega) (by decide)) ?_
  refine w_topi (y := nI 0) (by rw [nI_clamp (by omega), hr.2.2.1, hoth]; rfl) ?_
  refine w_if_eq (tgt := 60) d_MO_shut_24 rfl (fun _ => ?_) (fun z => absurd (by decide) z)
  refine w_aload_n d_MO_shut_60 rfl rfl ?_
  refine w_aload_n d_MO_shut_61 rfl rfl ?_
  refine w_get d_MO_shut_62 f_MO_149 hx_1 rfl ?_
  refine w_iconst (v := nI 1) d_MO_shut_65 (by decide) ?_
  refine w_isub d_MO_shut_66 ?_
  refine w_topi (y := nI ((i + 1))) (pk_sub (by omega)) ?_
  refine w_put d_MO_shut_67 f_MO_149 rfl hx_1 rfl rfl rfl ?_
  refine w_nm (fun h3 e3 => ?_)
  have hx_3 := wS_eq e3 hx_1
  have hd_3 := wS_ne e3 (by omega) hd_1
  have h63_3 := wS_ne e3 (by omega) h63_1
  have h64_3 := wS_ne e3 (by omega) h64_1
  have h65_3 := wS_ne e3 (by omega) h65_1
  refine w_aload_n d_MO_shut_70 rfl rfl ?_
  refine w_get d_MO_shut_71 f_MO_149 hx_3 rfl ?_
  refine w_if_le (tgt := 89) d_MO_shut_74 rfl (fun z => absurd z (fun z => by have := (nI_leI (a := i + 1) (b := 0) (by omega) (by decide)).mp z; omega)) (fun _ => ?_)
  refine w_aload_n d_MO_shut_77 rfl rfl ?_
  refine w_get d_MO_shut_78 f_MO_93 hx_3 rfl ?_
  refine w_if_eq (tgt := 89) d_MO_shut_81 rfl (fun z => absurd z (by decide)) (fun _ => ?_)
  refine w_aload_n d_MO_shut_84 rfl rfl ?_
  refine w_iload_n d_MO_shut_85 rfl ?_
  have K2 : ∀ q, q ≠ 57 → h3[q]? = h[q]? := fun q hq9 => by rw [wS_off e3 (by omega), wS_off e1 (by omega)]
  have em2 : mE h3 EE SS := hE.keep K2
  refine w_callV (as := [.int (nI (3 + (i + 1)))]) (st := []) d_MO_shut_86 yM_MO_takeSet l_MO_159 vM_MO_takeSet hx_3 rfl rfl rfl rfl (m_MO_takeSet (g := true) (j := i) (m := 3 + (i + 1)) (how := (B i).2.2.2.2) hx_3 em2 (by omega) h64_3 h65_3 hr2.2.2.2.2 (by omega) (by omega) hI2.2.2.2.2 (by rw [hr2.1]; exact hI2.1) (by rw [hr.1]; exact hI.1) (by rw [hr.1, hr2.1]; have := hI2.2.1; have e0 := hI.2.1; omega) (sR_sOk hr2.2.1 hI2.2.2.1) (sR_sOk hr.2.1 hI.2.2.1) (by rw [← sR_len hr.2.1, ← sR_len hr2.2.1]; have := hI2.2.2.2.1; have e2 := hI.2.2.2.1; omega)) (by decide) (by decide) (by decide) (by decide) (Nat.le_of_ble_eq_true rfl) ?_
  rintro _ g3 ⟨rfl, k3, F3, T3, fb3, fs3, x3, e3, a3, b3, q3, r3, j3, u3, v3, w3⟩
  refine w_eq (st' := []) rfl ?_
  rw [← hEN]
  refine w_vret d_MO_shut_89 rfl ?_
  have KK : ∀ q, q < 57 ∨ q = 58 ∨ q = 63 ∨ 66 ≤ q → g3[q]? = h[q]? := fun q hq9 => (k3 q hq9).trans (K2 q (by omega))
  rw [rEnd_F hoth]
  have hR2 : Rl B (i + 1) EE SS ft fb fs := hR.lt (by omega) (fun k hk => rfl)
  refine pQ_join (EE0 := EE) (SS0 := SS) (fb0 := fb) (fs0 := fs) hR2 (hQ.x x3 (htx.k2 (KK 58 (by omega))) e3 ((KK 63 (by omega)).trans h63) a3 b3 (ex_k h66 (KK 66 (by omega))) (ex_k h67 (KK 67 (by omega)))) (Bool.true_and _) ?_ ?_ (fun q hq9 => j3 (3 + q) (by omega) (by omega)) u3 v3 w3 (fun q hq9 => KK q (by omega)) (fun q hq9 => j3 q (by omega) (by omega))
  · rw [q3, hr.1, hr2.1]
  · rw [r3]; exact sR_mk hr2.2.1 hr.2.1
theorem m_MO_shut {h : wH} {t : List Nat} {EE SS : Nat → List Nat} {ft fb fs : Nat → Int32} {p : Nat} {B : Nat → Br} {j : Nat} (hq : hQ h t EE SS ft fb fs p true (j + 1)) (hR : Rl B (j + 1) EE SS ft fb fs) (hi : pInv t B (j + 1) p) (h11 : EE 11 = [0, 1114112]) (s11 : SS 11 = []) : PM X M_MO_shut 4 0 0 [.ref 57] h (pQ (rEnd B (j + 1) p) h t EE SS) := by
  cases j with
  | zero =>
    cases ho : (B 0).2.1 with
    | true => exact m_MO_shutT0 hq hR hi h11 s11 ho
    | false => exact m_MO_shutF0 hq hR hi h11 s11 ho
  | succ i =>
    cases ho : (B (i + 1)).2.1 with
    | true => exact m_MO_shutT1 hq hR hi h11 s11 ho
    | false => exact m_MO_shutF1 hq hR hi h11 s11 ho
end MO14
