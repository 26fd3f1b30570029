/-! the reference's brackets: written by wip/gen/mo13.py -/
/-- before, as a number -/
def bfN (β : Br) : Nat := if β.2.2.1 = 0 then 0 else if β.2.2.2.1 = true then 2 else 1
def hQ (h : wH) (t : List Nat) (EE SS : Nat → List Nat) (ft fb fs : Nat → Int32) (ap : Nat) (gd : Bool) (dp : Nat) : Prop := (∃ wr fi : Int32, h[57]? = some (.inr (7, [.ref 58, .int (nI t.length), .ref 59, .ref 60, .ref 61, .ref 62, .int (nI ap), .int (bI gd), .int (nI dp), .ref 63, .ref 64, .ref 65, .ref 66, .int (wr), .int (fi), .ref 67]))) ∧ mT h t ∧ mE h EE SS ∧ h[63]? = some (.inl (2, 6, .inl ft)) ∧ h[64]? = some (.inl (0, 6, .inl fb)) ∧ h[65]? = some (.inl (0, 6, .inl fs)) ∧ (∃ f : Nat → Int32, h[66]? = some (.inl (0, 60, .inl f))) ∧ ∃ f : Nat → Int32, h[67]? = some (.inl (2, 61, .inl f))
/-- the open brackets as the reference holds them -/
def Rl (B : Nat → Br) (d : Nat) (EE SS : Nat → List Nat) (ft fb fs : Nat → Int32) : Prop := ∀ k, k < d → EE (3 + k) = (B k).1.1 ∧ sR (B k).1.2 (SS (3 + k)) ∧ ft (k + 1) = bI (B k).2.1 ∧ fb (k + 1) = nI (bfN (B k)) ∧ fs (k + 1) = nI (B k).2.2.2.2
/-- what a step of the reference does -/
def pQ (x : Option rS) (h : wH) (t : List Nat) (EE SS : Nat → List Nat) : Option Value → wH → Prop := fun z h' => z = none ∧ wOff h h' 57 11 ∧ ∃ (EE' SS' : Nat → List Nat) (ft fb fs : Nat → Int32) (ap dp : Nat), hQ h' t EE' SS' ft fb fs ap x.isSome dp ∧ (∀ j, j < 3 ∨ j = 11 → EE' j = EE j ∧ SS' j = SS j) ∧ ∀ B d k V, x = some (B, d, k, V) → ap = k ∧ dp = d ∧ Rl B d EE' SS' ft fb fs ∧ (d = 0 → EE' 3 = V.1 ∧ sR V.2 (SS' 3))
/-- what the reference's reading keeps to -/
def pInv (t : List Nat) (B : Nat → Br) (d k : Nat) : Prop := d ≤ 5 ∧ (∀ j, j < d → iOk (B j).1 ∧ (B j).2.2.2.2 ≤ 3 ∧ ((B j).2.2.2.1 = true → (B j).2.2.1 ≠ 0)) ∧ eTot B d ≤ 2 * k ∧ k ≤ t.length ∧ ∀ j, d = j + 1 → (B j).2.2.2.2 ≠ 0 → t[k]? = some 91 ∨ pA t k
theorem mkS_mem {how : Nat} {S T : List Nat} {k : Nat} : k ∈ mkS how S T ↔ eDec how (decide (k ∈ S)) (decide (k ∈ T)) = true := by
  unfold mkS
  rw [List.mem_append, List.mem_filter, List.mem_filter]
  by_cases h1 : k ∈ S
  · rw [decide_eq_true h1]
    constructor
    · rintro (z | z)
      · exact z.2
      · have := z.2
        rw [Bool.not_true, Bool.false_and] at this
        cases this
    · exact fun z => Or.inl ⟨h1, z⟩
  · rw [decide_eq_false h1]
    constructor
    · rintro (z | z)
      · exact absurd z.1 h1
      · rw [decide_eq_true z.1]
        have := z.2
        rw [Bool.not_false, Bool.true_and] at this
        exact this
    · intro z
      by_cases h2 : k ∈ T
      · rw [decide_eq_true h2] at z
        exact Or.inr ⟨h2, by rw [z]; rfl⟩
      · rw [decide_eq_false h2, eDec_ff] at z
        cases z
theorem mkS_nd {how : Nat} {S T : List Nat} (h1 : S.Nodup) (h2 : T.Nodup) : (mkS how S T).Nodup := by
  unfold mkS
  rw [List.nodup_append]
  refine ⟨h1.filter _, h2.filter _, fun a ha b hb z => ?_⟩
  subst z
  have h3 := (List.mem_filter.mp ha).1
  have h4 := (List.mem_filter.mp hb).2
  rw [decide_eq_true h3] at h4
  cases h4
theorem sR_mk {how : Nat} {S S' T T' : List Nat} (h1 : sR S S') (h2 : sR T T') : sR (sCmb how S T) (mkS how S' T') := by
  refine ⟨sCmb_asc _ _ _, mkS_nd h1.2.1 h2.2.1, fun k => ?_⟩
  rw [sCmb_mem, mkS_mem, decide_eq_decide.mpr (h1.2.2 k), decide_eq_decide.mpr (h2.2.2 k)]
theorem sR_nil : sR [] [] := ⟨List.Pairwise.nil, List.Pairwise.nil, fun _ => Iff.rfl⟩
theorem sR_0 {S : List Nat} (h : sR [] S) : S = [] := by
  cases S with
  | nil => rfl
  | cons a l => exact absurd ((h.2.2 a).mpr (List.mem_cons_self ..)) (fun z => by cases z)
theorem sR_sOk {S T : List Nat} (h : sR S T) (h2 : ∀ y ∈ S, sOk y) : ∀ y ∈ T, sOk y := fun y hy => h2 y ((h.2.2 y).mpr hy)
theorem hQ.x {h : wH} {t : List Nat} {EE SS : Nat → List Nat} {ft fb fs : Nat → Int32} {ap dp : Nat} {gd : Bool} {wr fi : Int32} (a1 : h[57]? = some (.inr (7, [.ref 58, .int (nI t.length), .ref 59, .ref 60, .ref 61, .ref 62, .int (nI ap), .int (bI gd), .int (nI dp), .ref 63, .ref 64, .ref 65, .ref 66, .int (wr), .int (fi), .ref 67]))) (a2 : mT h t) (a3 : mE h EE SS) (a4 : h[63]? = some (.inl (2, 6, .inl ft))) (a5 : h[64]? = some (.inl (0, 6, .inl fb))) (a6 : h[65]? = some (.inl (0, 6, .inl fs))) (a7 : ∃ f : Nat → Int32, h[66]? = some (.inl (0, 60, .inl f))) (a8 : ∃ f : Nat → Int32, h[67]? = some (.inl (2, 61, .inl f))) : hQ h t EE SS ft fb fs ap gd dp := ⟨⟨wr, fi, a1⟩, a2, a3, a4, a5, a6, a7, a8⟩
theorem pQ_no {h h' : wH} {t : List Nat} {EE SS EE' SS' : Nat → List Nat} {ft fb fs : Nat → Int32} {ap dp : Nat} (hk : hQ h' t EE' SS' ft fb fs ap false dp) (hof : wOff h h' 57 11) (h7 : ∀ j, j < 3 ∨ j = 11 → EE' j = EE j ∧ SS' j = SS j) : pQ none h t EE SS none h' := ⟨rfl, hof, EE', SS', ft, fb, fs, ap, dp, hk, h7, fun _ _ _ _ z => by cases z⟩
theorem pQ_join {h h' : wH} {t : List Nat} {EE SS EE' SS' EE0 SS0 : Nat → List Nat} {ft fb' fs' fb0 fs0 : Nat → Int32} {B : Nat → Br} {i nx : Nat} {I : List Nat × List Nat} {z g : Bool} (hR : Rl B (i + 1) EE0 SS0 ft fb0 fs0) (hk : hQ h' t EE' SS' ft fb' fs' nx g (i + 1)) (hg : g = decide ((SS' (3 + i)).length ≤ 8)) (h1 : EE' (3 + i) = eCmb (B i).2.2.2.2 (B i).1.1 I.1) (h2 : sR (sCmb (B i).2.2.2.2 (B i).1.2 I.2) (SS' (3 + i))) (h3 : ∀ j, j < i → EE' (3 + j) = EE0 (3 + j) ∧ SS' (3 + j) = SS0 (3 + j)) (h4 : fb' (i + 1) = nI (if z = true then 2 else 1)) (h5 : fs' (i + 1) = nI 0) (h6 : ∀ j, j ≠ i + 1 → fb' j = fb0 j ∧ fs' j = fs0 j) (hof : wOff h h' 57 11) (h7 : ∀ j, j < 3 ∨ j = 11 → EE' j = EE j ∧ SS' j = SS j) : pQ (rJoin B (i + 1) nx I z) h t EE SS none h' := by
  have hl := sR_len h2
  rw [rJoin_S]
  split
  · rename_i h8
    rw [decide_eq_true (by omega)] at hg
    subst hg
    refine ⟨rfl, hof, EE', SS', ft, fb', fs', nx, i + 1, hk, h7, fun B9 d9 k9 V9 hz => ?_⟩
    cases hz
    refine ⟨rfl, rfl, fun j hj => ?_, fun z9 => by omega⟩
    by_cases hji : j = i
    · subst hji
      rw [bUp_at]
      have hr := hR j (by omega)
      refine ⟨h1, h2, hr.2.2.1, ?_, h5⟩
      rw [h4]
      unfold bfN
      dsimp only
      rw [if_neg (show ¬ (B j).2.2.1 + 1 = 0 by omega)]
    · rw [bUp_ne _ _ hji]
      have hr := hR j (by omega)
      have a1 := h3 j (by omega)
      have a2 := h6 (j + 1) (by omega)
      exact ⟨a1.1.trans hr.1, by rw [a1.2]; exact hr.2.1, hr.2.2.1, a2.1.trans hr.2.2.2.1, a2.2.trans hr.2.2.2.2⟩
  · rename_i h8
    rw [decide_eq_false (by omega)] at hg
    subst hg
    exact pQ_no hk hof h7
def pOpen (t : List Nat) (B : Nat → Br) (d p : Nat) : Option rS := rOpen B d (if t[p + 1]? = some 94 then p + 1 else p) (decide (t[p + 1]? = some 94))
theorem nar_bI (b : Bool) : vp_nar .boolean (bI b) = bI b := by cases b <;> decide
section MO13
variable {X : wX}
set_option maxHeartbeats 4000000 in
set_option maxRecDepth 100000 in
theorem m_MO_level {h : wH} {sz ap gd wr fi : Int32} {j : Nat} (hx : h[57]? = some (.inr (7, [.ref 58, .int (sz), .ref 59, .ref 60, .ref 61, .ref 62, .int (ap), .int (gd), .int (nI (j + 1)), .ref 63, .ref 64, .ref 65, .ref 66, .int (wr), .int (fi), .ref 67]))) : PM X M_MO_level 0 0 0 [.ref 57] h (fun z h' => z = some (.int (nI (3 + j))) ∧ h' = h) := by
  refine PM.at (pl := [some (.ref 57)]) rfl rfl (by simp [wle, wen]) ?_
  generalize hEN : wEm X 0 0 _ = EN
  refine w_iconst (v := nI 2) d_MO_level_0 (by decide) ?_
  refine w_aload_n d_MO_level_1 rfl rfl ?_
  refine w_get d_MO_level_2 f_MO_149 hx rfl ?_
  refine w_iadd d_MO_level_5 ?_
  refine w_topi (y := nI (3 + j)) (by rw [nI_add]; congr 1; omega) ?_
  rw [← hEN]
  refine w_iret d_MO_level_6 rfl ?_
  exact ⟨rfl, rfl⟩
set_option maxHeartbeats 4000000 in
set_option maxRecDepth 100000 in
theorem m_MO_ended {h : wH} {t : List Nat} {wr fi : Int32} {ap j : Nat} {g : Bool} {w9 : Int32} {fb : Nat → Int32} (hx : h[57]? = some (.inr (7, [.ref 58, .int (nI t.length), .ref 59, .ref 60, .ref 61, .ref 62, .int (nI ap), .int (bI g), .int (nI (j + 1)), .ref 63, .ref 64, .ref 65, .ref 66, .int (wr), .int (fi), .ref 67]))) {EE SS : Nat → List Nat} (hE : mE h EE SS) (hj : j < 5) (h64 : h[64]? = some (.inl (0, 6, .inl fb))) : PM X M_MO_ended 1 0 0 [.ref 57, .int (w9)] h (fun z h' => z = none ∧ h'[57]? = some (.inr (7, [.ref 58, .int (nI t.length), .ref 59, .ref 60, .ref 61, .ref 62, .int (nI ap), .int (bI (g && decide ((SS (3 + j)).length ≤ 8))), .int (nI (j + 1)), .ref 63, .ref 64, .ref 65, .ref 66, .int (wr), .int (fi), .ref 67])) ∧ (∃ fb' : Nat → Int32, h'[64]? = some (.inl (0, 6, .inl fb')) ∧ fb' (j + 1) = w9 ∧ ∀ i, i ≠ j + 1 → fb' i = fb i) ∧ ∀ i, i ≠ 57 → i ≠ 64 → h'[i]? = h[i]?) := by
  obtain ⟨ef, cf, sf, nf, ha, hb, hc, hd, hs⟩ := id hE
  obtain ⟨s1, s2, s3, s4, s5, s6⟩ := hs (3 + j) (by omega)
  refine PM.at (pl := [some (.ref 57), some (.int (w9))]) rfl rfl (by simp [wle, wen]) ?_
  generalize hEN : wEm X 0 0 _ = EN
  refine w_aload_n d_MO_ended_0 rfl rfl ?_
  refine w_get d_MO_ended_1 f_MO_30 hx rfl ?_
  refine w_aload_n d_MO_ended_4 rfl rfl ?_
  refine w_get d_MO_ended_5 f_MO_149 hx rfl ?_
  refine w_iload_n d_MO_ended_8 rfl ?_
  refine w_iast d_MO_ended_9 h64 (vp_in_nI (by omega) (by decide)) ?_
  refine w_nm (fun h1 e1 => ?_)
  have hx_1 := wS_ne e1 (by omega) hx
  have h64_1 := wS_eq e1 h64
  have hd_1 := wS_ne e1 (by omega) hd
  refine w_aload_n d_MO_ended_10 rfl rfl ?_
  refine w_aload_n d_MO_ended_11 rfl rfl ?_
  refine w_get d_MO_ended_12 f_MO_93 hx_1 rfl ?_
  suffices J37 : WP X M_MO_ended (wR 1 0 0) 0 EN 0 0 37 [some (.ref 57), some (.int (w9))] [.int (bI (g && decide ((SS (3 + j)).length ≤ 8))), .ref 57] h1 by
    refine w_if_eq (tgt := 36) d_MO_ended_15 rfl (fun c15 => ?_) (fun c15 => ?_)
    · have c15 := bI_f c15
      refine w_iconst (v := nI 0) d_MO_ended_36 (by decide) ?_
      exact w_topi (by rw [c15]; rfl) J37
    · have c15 := bI_t c15
      refine w_aload_n d_MO_ended_18 rfl rfl ?_
      refine w_get d_MO_ended_19 f_MO_23 hx_1 rfl ?_
      refine w_aload_n d_MO_ended_22 rfl rfl ?_
      refine w_callV (as := []) (st := [.ref 62, .ref 57]) d_MO_ended_23 yM_MO_level l_MO_152 vM_MO_level hx_1 rfl rfl rfl rfl (m_MO_level hx_1) (by decide) (by decide) (by decide) (by decide) (Nat.le_of_ble_eq_true rfl) ?_
      rintro _ h9_2 ⟨rfl, e9_2⟩
      rw [e9_2]
      refine w_eq (st' := [.int (nI (3 + j)), .ref 62, .ref 57]) rfl ?_
      refine w_iald d_MO_ended_26 hd_1 (vp_in_nI (by omega) (by decide)) ?_
      refine w_topi (y := nI (SS (3 + j)).length) (by rw [nI_clamp (by omega)]; exact s2) ?_
      refine w_bipush (v := nI 8) d_MO_ended_27 (by decide) ?_
      refine w_icmp_gt (tgt := 36) d_MO_ended_29 rfl (fun c29 => ?_) (fun c29 => ?_)
      · have c29 : ¬ (SS (3 + j)).length ≤ 8 := Nat.not_le.mpr ((nI_ltI (a := 8) (b := (SS (3 + j)).length) (by decide) (by omega)).mp c29)
        refine w_iconst (v := nI 0) d_MO_ended_36 (by decide) ?_
        exact w_topi (by rw [c15, decide_eq_false c29]; rfl) J37
      · have c29 : (SS (3 + j)).length ≤ 8 := Nat.not_lt.mp (fun z => c29 ((nI_ltI (a := 8) (b := (SS (3 + j)).length) (by decide) (by omega)).mpr z))
        refine w_iconst (v := nI 1) d_MO_ended_32 (by decide) ?_
        refine w_goto (tgt := 37) d_MO_ended_33 rfl ?_
        exact w_topi (by rw [c15, decide_eq_true c29]; rfl) J37
  refine w_put d_MO_ended_37 f_MO_93 rfl hx_1 rfl (bI_nar _) (bI_fit _) ?_
  refine w_nm (fun h3 e3 => ?_)
  have hx_3 := wS_eq e3 hx_1
  have h64_3 := wS_ne e3 (by omega) h64_1
  have hd_3 := wS_ne e3 (by omega) hd_1
  rw [← hEN]
  refine w_vret d_MO_ended_40 rfl ?_
  refine ⟨rfl, hx_3, ⟨_, h64_3, by rw [nI_clamp (by omega)]; exact upd_eq, fun i hi => by rw [nI_clamp (by omega)]; exact upd_ne hi⟩, fun i h1 h2 => by rw [wS_off e3 (by omega), wS_off e1 (by omega)]⟩
set_option maxHeartbeats 4000000 in
set_option maxRecDepth 100000 in
theorem m_MO_takeSet {h : wH} {t : List Nat} {wr fi : Int32} {ap j m how : Nat} {g : Bool} {fb fs : Nat → Int32} (hx : h[57]? = some (.inr (7, [.ref 58, .int (nI t.length), .ref 59, .ref 60, .ref 61, .ref 62, .int (nI ap), .int (bI g), .int (nI (j + 1)), .ref 63, .ref 64, .ref 65, .ref 66, .int (wr), .int (fi), .ref 67]))) {EE SS : Nat → List Nat} (hE : mE h EE SS) (hj : j < 5) (h64 : h[64]? = some (.inl (0, 6, .inl fb))) (h65 : h[65]? = some (.inl (0, 6, .inl fs))) (hsg : fs (j + 1) = nI how) (hm : m < 12) (hm10 : m ≠ 10) (hh : how ≤ 3) (hTo : eOk (EE (3 + j))) (hBo : eOk (EE m)) (hlen : (EE (3 + j)).length + (EE m).length ≤ 420) (hTs : ∀ y ∈ SS (3 + j), sOk y) (hBs : ∀ y ∈ SS m, sOk y) (hsl : (SS (3 + j)).length + (SS m).length ≤ 20) : PM X M_MO_takeSet 3 0 0 [.ref 57, .int (nI m)] h (fun z h' => z = none ∧ (∀ i, i < 57 ∨ i = 58 ∨ i = 63 ∨ 66 ≤ i → h'[i]? = h[i]?) ∧ ∃ (EE' SS' : Nat → List Nat) (fb' fs' : Nat → Int32), h'[57]? = some (.inr (7, [.ref 58, .int (nI t.length), .ref 59, .ref 60, .ref 61, .ref 62, .int (nI ap), .int (bI (g && decide ((SS' (3 + j)).length ≤ 8))), .int (nI (j + 1)), .ref 63, .ref 64, .ref 65, .ref 66, .int (wr), .int (fi), .ref 67])) ∧ mE h' EE' SS' ∧ h'[64]? = some (.inl (0, 6, .inl fb')) ∧ h'[65]? = some (.inl (0, 6, .inl fs')) ∧ EE' (3 + j) = eCmb how (EE (3 + j)) (EE m) ∧ SS' (3 + j) = mkS how (SS (3 + j)) (SS m) ∧ (∀ i, i ≠ 3 + j → i ≠ 10 → EE' i = EE i ∧ SS' i = SS i) ∧ fb' (j + 1) = nI 2 ∧ fs' (j + 1) = nI 0 ∧ ∀ i, i ≠ j + 1 → fb' i = fb i ∧ fs' i = fs i) := by
  refine PM.at (pl := [some (.ref 57), some (.int (nI m))]) rfl rfl (by simp [wle, wen]) ?_
  generalize hEN : wEm X 0 0 _ = EN
  refine w_aload_n d_MO_takeSet_0 rfl rfl ?_
  refine w_aload_n d_MO_takeSet_1 rfl rfl ?_
  refine w_callV (as := []) (st := [.ref 57]) d_MO_takeSet_2 yM_MO_level l_MO_152 vM_MO_level hx rfl rfl rfl rfl (m_MO_level hx) (by decide) (by decide) (by decide) (by decide) (Nat.le_of_ble_eq_true rfl) ?_
  rintro _ h9_1 ⟨rfl, e9_1⟩
  rw [e9_1]
  refine w_eq (st' := [.int (nI (3 + j)), .ref 57]) rfl ?_
  refine w_iload_n d_MO_takeSet_5 rfl ?_
  refine w_aload_n d_MO_takeSet_6 rfl rfl ?_
  refine w_get d_MO_takeSet_7 f_MO_33 hx rfl ?_
  refine w_aload_n d_MO_takeSet_10 rfl rfl ?_
  refine w_get d_MO_takeSet_11 f_MO_149 hx rfl ?_
  refine w_iald d_MO_takeSet_14 h65 (vp_in_nI (by omega) (by decide)) ?_
  refine w_topi (y := nI how) (by rw [nI_clamp (by omega)]; exact hsg) ?_
  refine w_callV (as := [.int (nI (3 + j)), .int (nI m), .int (nI how)]) (st := []) d_MO_takeSet_15 yM_MO_join l_MO_80 vM_MO_join hx rfl rfl rfl rfl (m_MO_join (t := 3 + j) (b := m) (how := how) hx hE (by omega) hm (by omega) hm10 hh hTo hBo hlen hTs hBs hsl) (by decide) (by decide) (by decide) (by decide) (Nat.le_of_ble_eq_true rfl) ?_
  rintro _ h1 ⟨rfl, o1, F1, T1, e1, q1, r1, k1⟩
  have hx_h1 := (o1 57 (by omega)).trans hx
  have h64_h1 := (o1 64 (by omega)).trans h64
  have h65_h1 := (o1 65 (by omega)).trans h65
  refine w_eq (st' := []) rfl ?_
  refine w_aload_n d_MO_takeSet_18 rfl rfl ?_
  refine w_get d_MO_takeSet_19 f_MO_33 hx_h1 rfl ?_
  refine w_aload_n d_MO_takeSet_22 rfl rfl ?_
  refine w_get d_MO_takeSet_23 f_MO_149 hx_h1 rfl ?_
  refine w_iconst (v := nI 0) d_MO_takeSet_26 (by decide) ?_
  refine w_iast d_MO_takeSet_27 h65_h1 (vp_in_nI (by omega) (by decide)) ?_
  refine w_nm (fun h2 e2 => ?_)
  have hx_2 := wS_ne e2 (by omega) hx_h1
  have h64_2 := wS_ne e2 (by omega) h64_h1
  have h65_2 := wS_eq e2 h65_h1
  refine w_aload_n d_MO_takeSet_28 rfl rfl ?_
  refine w_iconst (v := nI 2) d_MO_takeSet_29 (by decide) ?_
  have em2 : mE h2 F1 T1 := e1.off (p := 65) (n := 1) (fun i hi => by rw [wS_off e2 (by omega)]) (by omega)
  refine w_callV (as := [.int (nI 2)]) (st := []) d_MO_takeSet_30 yM_MO_ended l_MO_156 vM_MO_ended hx_2 rfl rfl rfl rfl (m_MO_ended (w9 := nI 2) hx_2 em2 hj h64_2) (by decide) (by decide) (by decide) (by decide) (Nat.le_of_ble_eq_true rfl) ?_
  rintro _ h3 ⟨rfl, x3, ⟨fb3, a3, b3, c3⟩, k3⟩
  refine w_eq (st' := []) rfl ?_
  have a4 := (k3 65 (by omega) (by omega)).trans h65_2
  have K0 : ∀ i, i ≠ 65 → h2[i]? = h1[i]? := fun i hi => by rw [wS_off e2 (by omega)]
  rw [← hEN]
  refine w_vret d_MO_takeSet_33 rfl ?_
  refine ⟨rfl, fun i hi => (k3 i (by omega) (by omega)).trans ((K0 i (by omega)).trans (o1 i (by omega))), F1, T1, fb3, _, x3, ?_, a3, a4, q1, r1, k1, b3, by rw [nI_clamp (by omega)]; exact upd_eq, fun i hi => ⟨c3 i hi, by rw [nI_clamp (by omega)]; exact upd_ne hi⟩⟩
  obtain ⟨ef, cf, sf, nf, m1, m2, m3, m4, m5⟩ := em2
  exact ⟨ef, cf, sf, nf, (k3 59 (by omega) (by omega)).trans m1, (k3 60 (by omega) (by omega)).trans m2, (k3 61 (by omega) (by omega)).trans m3, (k3 62 (by omega) (by omega)).trans m4, m5⟩
set_option maxHeartbeats 4000000 in
set_option maxRecDepth 100000 in
theorem m_MO_open5 {h : wH} {t : List Nat} {EE SS : Nat → List Nat} {ft fb fs : Nat → Int32} {p : Nat} {B : Nat → Br} (hq : hQ h t EE SS ft fb fs p true 5) : PM X M_MO_open 1 0 0 [.ref 57] h (pQ (pOpen t B 5 p) h t EE SS) := by
  obtain ⟨⟨wr, fi, hx⟩, htx, hE, h63, h64, h65, h66, h67⟩ := hq
  refine PM.at (pl := [some (.ref 57)]) rfl rfl (by simp [wle, wen]) ?_
  generalize hEN : wEm X 0 0 _ = EN
  refine w_aload_n d_MO_open_0 rfl rfl ?_
  refine w_aload_n d_MO_open_1 rfl rfl ?_
  refine w_get d_MO_open_2 f_MO_86 hx rfl ?_
  refine w_iconst (v := nI 1) d_MO_open_5 (by decide) ?_
  refine w_iadd d_MO_open_6 ?_
  refine w_topi (y := nI (p + 1)) (nI_1 _) ?_
  refine w_put d_MO_open_7 f_MO_86 rfl hx rfl rfl rfl ?_
  refine w_nm (fun h1 e1 => ?_)
  have hx_1 := wS_eq e1 hx
  refine w_aload_n d_MO_open_10 rfl rfl ?_
  refine w_get d_MO_open_11 f_MO_149 hx_1 rfl ?_
  refine w_iconst (v := nI 5) d_MO_open_14 (by decide) ?_
  refine w_icmp_ne (tgt := 24) d_MO_open_15 rfl (fun z => absurd (by decide) z) (fun _ => ?_)
  refine w_aload_n d_MO_open_18 rfl rfl ?_
  refine w_iconst (v := nI 0) d_MO_open_19 (by decide) ?_
  refine w_put d_MO_open_20 f_MO_93 rfl hx_1 rfl rfl rfl ?_
  refine w_nm (fun h2 e2 => ?_)
  have hx_2 := wS_eq e2 hx_1
  rw [← hEN]
  refine w_vret d_MO_open_23 rfl ?_
  have K : ∀ i, i ≠ 57 → h2[i]? = h[i]? := fun i hi => by rw [wS_off e2 (by omega), wS_off e1 (by omega)]
  have x9 : h2[57]? = some (.inr (7, [.ref 58, .int (nI t.length), .ref 59, .ref 60, .ref 61, .ref 62, .int (nI (p + 1)), .int (bI false), .int (nI 5), .ref 63, .ref 64, .ref 65, .ref 66, .int (wr), .int (fi), .ref 67])) := hx_2
  rw [show pOpen t B 5 p = none by unfold pOpen rOpen; rw [if_neg (show ¬ 5 < 5 by decide)]]
  exact pQ_no (hQ.x x9 (htx.keep K) (hE.keep K) ((K 63 (by omega)).trans h63) ((K 64 (by omega)).trans h64) ((K 65 (by omega)).trans h65) (by rw [K 66 (by omega)]; exact h66) (by rw [K 67 (by omega)]; exact h67)) (fun j hj => K j (by omega)) (fun _ _ => ⟨rfl, rfl⟩)
set_option maxHeartbeats 4000000 in
set_option maxRecDepth 100000 in
theorem m_MO_open4 {h : wH} {t : List Nat} {EE SS : Nat → List Nat} {ft fb fs : Nat → Int32} {p : Nat} {B : Nat → Br} {j : Nat} (hq : hQ h t EE SS ft fb fs p true j) (hj : j < 5) (hR : Rl B j EE SS ft fb fs) (ht31 : ∀ x ∈ t, x < 1114112) (hp : p < 2 ^ 10) : PM X M_MO_open 1 0 0 [.ref 57] h (pQ (pOpen t B j p) h t EE SS) := by
  obtain ⟨⟨wr, fi, hx⟩, htx, hE, h63, h64, h65, h66, h67⟩ := hq
  refine PM.at (pl := [some (.ref 57)]) rfl rfl (by simp [wle, wen]) ?_
  generalize hEN : wEm X 0 0 _ = EN
  refine w_aload_n d_MO_open_0 rfl rfl ?_
  refine w_aload_n d_MO_open_1 rfl rfl ?_
  refine w_get d_MO_open_2 f_MO_86 hx rfl ?_
  refine w_iconst (v := nI 1) d_MO_open_5 (by decide) ?_
  refine w_iadd d_MO_open_6 ?_
  refine w_topi (y := nI (p + 1)) (nI_1 _) ?_
  refine w_put d_MO_open_7 f_MO_86 rfl hx rfl rfl rfl ?_
  refine w_nm (fun h1 e1 => ?_)
  have hx_1 := wS_eq e1 hx
  have h63_1 := wS_ne e1 (by omega) h63
  have h64_1 := wS_ne e1 (by omega) h64
  have h65_1 := wS_ne e1 (by omega) h65
  refine w_aload_n d_MO_open_10 rfl rfl ?_
  refine w_get d_MO_open_11 f_MO_149 hx_1 rfl ?_
  refine w_iconst (v := nI 5) d_MO_open_14 (by decide) ?_
  refine w_icmp_ne (tgt := 24) d_MO_open_15 rfl (fun _ => ?_) (fun z => absurd z (fun z => by have := (nI_eq (a := j) (b := 5) (by omega) (by decide)).mp z; omega))
  refine w_aload_n d_MO_open_24 rfl rfl ?_
  refine w_aload_n d_MO_open_25 rfl rfl ?_
  refine w_get d_MO_open_26 f_MO_149 hx_1 rfl ?_
  refine w_iconst (v := nI 1) d_MO_open_29 (by decide) ?_
  refine w_iadd d_MO_open_30 ?_
  refine w_topi (y := nI (j + 1)) (nI_1 _) ?_
  refine w_put d_MO_open_31 f_MO_149 rfl hx_1 rfl rfl rfl ?_
  refine w_nm (fun h2 e2 => ?_)
  have hx_2 := wS_eq e2 hx_1
  have h63_2 := wS_ne e2 (by omega) h63_1
  have h64_2 := wS_ne e2 (by omega) h64_1
  have h65_2 := wS_ne e2 (by omega) h65_1
  refine w_aload_n d_MO_open_34 rfl rfl ?_
  refine w_aload_n d_MO_open_35 rfl rfl ?_
  refine w_callV (as := []) (st := [.ref 57]) d_MO_open_36 yM_MO_level l_MO_152 vM_MO_level hx_2 rfl rfl rfl rfl (m_MO_level hx_2) (by decide) (by decide) (by decide) (by decide) (Nat.le_of_ble_eq_true rfl) ?_
  rintro _ h9_3 ⟨rfl, e9_3⟩
  rw [e9_3]
  refine w_eq (st' := [.int (nI (3 + j)), .ref 57]) rfl ?_
  have K : ∀ i, i ≠ 57 → h2[i]? = h[i]? := fun i hi => by rw [wS_off e2 (by omega), wS_off e1 (by omega)]
  refine w_callV (as := [.int (nI (3 + j))]) (st := []) d_MO_open_39 yM_MO_empty l_MO_48 vM_MO_empty hx_2 rfl rfl rfl rfl (m_MO_empty hx_2 (hE.keep K) (t := 3 + j) (by omega)) (by decide) (by decide) (by decide) (by decide) (Nat.le_of_ble_eq_true rfl) ?_
  rintro _ h1 ⟨rfl, e1, o1⟩
  have hx_h1 := (o1 57 (by omega)).trans hx_2
  have h63_h1 := (o1 63 (by omega)).trans h63_2
  have h64_h1 := (o1 64 (by omega)).trans h64_2
  have h65_h1 := (o1 65 (by omega)).trans h65_2
  refine w_eq (st' := []) rfl ?_
  have K1 : ∀ i, i ≠ 57 → (i < 59 ∨ 63 ≤ i) → h1[i]? = h[i]? := fun i h8 h9 => (o1 i (by omega)).trans (K i h8)
  have tx1 : mT h1 t := (htx.keep K).off o1 (by omega)
  refine w_aload_n d_MO_open_42 rfl rfl ?_
  refine w_get d_MO_open_43 f_MO_26 hx_h1 rfl ?_
  refine w_aload_n d_MO_open_46 rfl rfl ?_
  refine w_get d_MO_open_47 f_MO_149 hx_h1 rfl ?_
  refine w_aload_n d_MO_open_50 rfl rfl ?_
  refine w_aload_n d_MO_open_51 rfl rfl ?_
  refine w_get d_MO_open_52 f_MO_86 hx_h1 rfl ?_
  refine w_bipush (v := nI 94) d_MO_open_55 (by decide) ?_
  refine w_callV (as := [.int (nI (p + 1)), .int (nI 94)]) (st := [.int (nI (j + 1)), .ref 63]) d_MO_open_57 yM_MO_is l_MO_83 vM_MO_is hx_h1 rfl rfl rfl rfl (m_MO_is hx_h1 tx1 ht31 (by omega) (by decide)) (by decide) (by decide) (by decide) (by decide) (Nat.le_of_ble_eq_true rfl) ?_
  rintro _ h9_4 ⟨rfl, e9_4⟩
  rw [e9_4]
  refine w_eq (st' := [.int (bI (decide (t[p + 1]? = some 94))), .int (nI (j + 1)), .ref 63]) rfl ?_
  refine w_zast d_MO_open_60 h63_h1 (vp_in_nI (by omega) (by decide)) ?_
  refine w_nm (fun h5 e5 => ?_)
  have hx_5 := wS_ne e5 (by omega) hx_h1
  have h63_5 := wS_eq e5 h63_h1
  have h64_5 := wS_ne e5 (by omega) h64_h1
  have h65_5 := wS_ne e5 (by omega) h65_h1
  refine w_aload_n d_MO_open_61 rfl rfl ?_
  refine w_aload_n d_MO_open_62 rfl rfl ?_
  refine w_get d_MO_open_63 f_MO_26 hx_5 rfl ?_
  refine w_aload_n d_MO_open_66 rfl rfl ?_
  refine w_get d_MO_open_67 f_MO_149 hx_5 rfl ?_
  refine w_zald d_MO_open_70 h63_5 (vp_in_nI (by omega) (by decide)) ?_
  refine w_topi (y := bI (decide (t[p + 1]? = some 94))) (by rw [upd_eq]; exact nar_bI _) ?_
  suffices J87 : WP X M_MO_open (wR 1 0 0) 0 EN 0 0 87 [some (.ref 57)] [.int (nI ((if t[p + 1]? = some 94 then p + 1 else p) + 1)), .ref 57] h5 by
    refine w_if_eq (tgt := 83) d_MO_open_71 rfl (fun c71 => ?_) (fun c71 => ?_)
    · have c71 := of_decide_eq_false (bI_f c71)
      refine w_aload_n d_MO_open_83 rfl rfl ?_
      refine w_get d_MO_open_84 f_MO_86 hx_5 rfl ?_
      exact w_topi (by rw [if_neg c71]) J87
    · have c71 := of_decide_eq_true (bI_t c71)
      refine w_aload_n d_MO_open_74 rfl rfl ?_
      refine w_get d_MO_open_75 f_MO_86 hx_5 rfl ?_
      refine w_iconst (v := nI 1) d_MO_open_78 (by decide) ?_
      refine w_iadd d_MO_open_79 ?_
      refine w_topi (y := nI (p + 1 + 1)) (nI_1 _) ?_
      refine w_goto (tgt := 87) d_MO_open_80 rfl ?_
      exact w_topi (by rw [if_pos c71]) J87
  refine w_put d_MO_open_87 f_MO_86 rfl hx_5 rfl rfl rfl ?_
  refine w_nm (fun h6 e6 => ?_)
  have hx_6 := wS_eq e6 hx_5
  have h63_6 := wS_ne e6 (by omega) h63_5
  have h64_6 := wS_ne e6 (by omega) h64_5
  have h65_6 := wS_ne e6 (by omega) h65_5
  refine w_aload_n d_MO_open_90 rfl rfl ?_
  refine w_get d_MO_open_91 f_MO_30 hx_6 rfl ?_
  refine w_aload_n d_MO_open_94 rfl rfl ?_
  refine w_get d_MO_open_95 f_MO_149 hx_6 rfl ?_
  refine w_iconst (v := nI 0) d_MO_open_98 (by decide) ?_
  refine w_iast d_MO_open_99 h64_6 (vp_in_nI (by omega) (by decide)) ?_
  refine w_nm (fun h7 e7 => ?_)
  have hx_7 := wS_ne e7 (by omega) hx_6
  have h63_7 := wS_ne e7 (by omega) h63_6
  have h64_7 := wS_eq e7 h64_6
  have h65_7 := wS_ne e7 (by omega) h65_6
  refine w_aload_n d_MO_open_100 rfl rfl ?_
  refine w_get d_MO_open_101 f_MO_33 hx_7 rfl ?_
  refine w_aload_n d_MO_open_104 rfl rfl ?_
  refine w_get d_MO_open_105 f_MO_149 hx_7 rfl ?_
  refine w_iconst (v := nI 0) d_MO_open_108 (by decide) ?_
  refine w_iast d_MO_open_109 h65_7 (vp_in_nI (by omega) (by decide)) ?_
  refine w_nm (fun h8 e8 => ?_)
  have hx_8 := wS_ne e8 (by omega) hx_7
  have h63_8 := wS_ne e8 (by omega) h63_7
  have h64_8 := wS_ne e8 (by omega) h64_7
  have h65_8 := wS_eq e8 h65_7
  rw [← hEN]
  refine w_vret d_MO_open_110 rfl ?_
  have K2 : ∀ i, i ≠ 57 → i ≠ 63 → i ≠ 64 → i ≠ 65 → h8[i]? = h1[i]? := fun i h6 h7 h8 h9 => by rw [wS_off e8 (by omega), wS_off e7 (by omega), wS_off e6 (by omega), wS_off e5 (by omega)]
  have x9 : h8[57]? = some (.inr (7, [.ref 58, .int (nI t.length), .ref 59, .ref 60, .ref 61, .ref 62, .int (nI ((if t[p + 1]? = some 94 then p + 1 else p) + 1)), .int (bI true), .int (nI (j + 1)), .ref 63, .ref 64, .ref 65, .ref 66, .int (wr), .int (fi), .ref 67])) := hx_8
  rw [show pOpen t B j p = some (bUp B j (([], []), decide (t[p + 1]? = some 94), 0, false, 0), j + 1, (if t[p + 1]? = some 94 then p + 1 else p) + 1, ([], [])) from if_pos hj]
  obtain ⟨ef, cf, sf, nf, m1, m2, m3, m4, m5⟩ := e1
  have e9 : mE h8 (va_up EE (3 + j) []) (va_up SS (3 + j) []) := ⟨ef, cf, sf, nf, (K2 59 (by omega) (by omega) (by omega) (by omega)).trans m1, (K2 60 (by omega) (by omega) (by omega) (by omega)).trans m2, (K2 61 (by omega) (by omega) (by omega) (by omega)).trans m3, (K2 62 (by omega) (by omega) (by omega) (by omega)).trans m4, m5⟩
  obtain ⟨tf, tx2, tx3⟩ := tx1
  refine ⟨rfl, fun i hi => (K2 i (by omega) (by omega) (by omega) (by omega)).trans (K1 i (by omega) (by omega)), _, _, _, _, _, _, _, hQ.x x9 ⟨tf, (K2 58 (by omega) (by omega) (by omega) (by omega)).trans tx2, tx3⟩ e9 h63_8 h64_8 h65_8 (by rw [K2 66 (by omega) (by omega) (by omega) (by omega), K1 66 (by omega) (by omega)]; exact h66) (by rw [K2 67 (by omega) (by omega) (by omega) (by omega), K1 67 (by omega) (by omega)]; exact h67), fun i hi => ⟨va_up_ne _ _ (by omega), va_up_ne _ _ (by omega)⟩, fun B9 d9 k9 V9 hz => ?_⟩
  cases hz
  refine ⟨rfl, rfl, fun k hk => ?_, fun z9 => by omega⟩
  rw [nI_clamp (by omega)]
  by_cases hkj : k = j
  · subst hkj
    rw [bUp_at, va_up_self, va_up_self, upd_eq, upd_eq, upd_eq]
    exact ⟨rfl, sR_nil, nar_bI _, rfl, rfl⟩
  · rw [bUp_ne _ _ hkj, va_up_ne _ _ (by omega), va_up_ne _ _ (by omega), upd_ne (by omega), upd_ne (by omega), upd_ne (by omega)]
    exact hR k (by omega)
theorem m_MO_open {h : wH} {t : List Nat} {EE SS : Nat → List Nat} {ft fb fs : Nat → Int32} {p : Nat} {B : Nat → Br} {j : Nat} (hq : hQ h t EE SS ft fb fs p true j) (hj : j ≤ 5) (hR : Rl B j EE SS ft fb fs) (ht31 : ∀ x ∈ t, x < 1114112) (hp : p < 2 ^ 10) : PM X M_MO_open 1 0 0 [.ref 57] h (pQ (pOpen t B j p) h t EE SS) := by
  by_cases h5 : j = 5
  · subst h5
    exact m_MO_open5 hq
  · exact m_MO_open4 hq (by omega) hR ht31 hp
end MO13
