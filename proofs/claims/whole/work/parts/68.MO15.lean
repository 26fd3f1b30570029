/-! the reference's code points and signs: written by wip/gen/mo15.py -/
theorem rc_ok {t : List Nat} (ht : ∀ x ∈ t, x < 1114112) {k a k1 : Nat} (h : rc t k = some (a, k1)) : a < 1114112 ∧ k < k1 ∧ k1 ≤ t.length := by
  unfold rc at h
  cases hc : t[k]? with
  | none => rw [hc] at h; cases h
  | some c =>
    rw [hc] at h
    dsimp only at h
    split at h
    · rename_i v w hl
      cases h
      have h1 := lxAt_ok ht hc hl
      have h2 := lxAt_w (lx_lt hc) hl
      obtain ⟨u, hu, hv⟩ := (h1.2 _ rfl).1.2.2.1 rfl
      have hv : v = nI u := hv
      rw [hv, nV_nI hu]
      omega
    · cases h
/-- a code point or a range -/
def pChr (t : List Nat) (B : Nat → Br) (d p : Nat) : Option rS := match rc t p with
  | none => none
  | some (a, k1) => if t[pSp t k1]? = some 45 ∧ ¬ t[pSp t (pSp t k1 + 1)]? = some 93 then (match rc t (pSp t (pSp t k1 + 1)) with
    | none => none
    | some (b, k2) => if a ≤ b then rJoin B d k2 (rRan a b) false else none) else rJoin B d k1 (rRan a a) false
/-- a sign or a dash -/
def pSgn (t : List Nat) (B : Nat → Br) (d p : Nat) : Option rS := match d with
  | 0 => none
  | j + 1 => if t[p]? = some 45 ∧ ((B j).2.2.1 = 0 ∨ t[pSp t (p + 1)]? = some 93) then rJoin B (j + 1) (p + 1) (rRan 45 45) false
    else if (B j).2.2.2.1 = true ∧ (t[pSp t (p + 1)]? = some 91 ∨ pA t (pSp t (p + 1))) then some (bUp B j ((B j).1, (B j).2.1, (B j).2.2.1, (B j).2.2.2.1, if t[p]? = some 45 then 2 else 1), j + 1, pSp t (p + 1), ([], [])) else none
theorem bfN_0 (β : Br) : bfN β = 0 ↔ β.2.2.1 = 0 := by
  unfold bfN
  split
  · rename_i h; exact ⟨fun _ => h, fun _ => rfl⟩
  · rename_i h
    constructor
    · intro z; split at z <;> cases z
    · intro z; exact absurd z h
theorem bfN_2 {β : Br} (h : β.2.2.2.1 = true → β.2.2.1 ≠ 0) : bfN β = 2 ↔ β.2.2.2.1 = true := by
  unfold bfN
  by_cases h1 : β.2.2.2.1 = true
  · rw [if_neg (h h1), if_pos h1]; exact ⟨fun _ => h1, fun _ => rfl⟩
  · rw [if_neg h1]
    constructor
    · intro z; split at z <;> cases z
    · intro z; exact absurd z h1
theorem bfN_le (β : Br) : bfN β ≤ 2 := by
  unfold bfN
  split
  · omega
  · split <;> omega
/-- behind ended(1): a set was put in with no sign -/
theorem pQ_put {h h' h9 : wH} {t : List Nat} {EE SS EE' SS' : Nat → List Nat} {ft fb fs fb' : Nat → Int32} {B : Nat → Br} {j nx : Nat} {I : List Nat × List Nat} {wr fi : Int32} (hR : Rl B (j + 1) EE SS ft fb fs) (hw : (B j).2.2.2.2 = 0) (x9 : h'[57]? = some (.inr (7, [.ref 58, .int (nI t.length), .ref 59, .ref 60, .ref 61, .ref 62, .int (nI nx), .int (bI (true && decide ((SS' (3 + j)).length ≤ 8))), .int (nI (j + 1)), .ref 63, .ref 64, .ref 65, .ref 66, .int (wr), .int (fi), .ref 67]))) (hm : mT h' t) (he : mE h' EE' SS') (a63 : h'[63]? = some (.inl (2, 6, .inl ft))) (a64 : h'[64]? = some (.inl (0, 6, .inl fb'))) (a65 : h'[65]? = some (.inl (0, 6, .inl fs))) (a66 : ∃ f : Nat → Int32, h'[66]? = some (.inl (0, 60, .inl f))) (a67 : ∃ f : Nat → Int32, h'[67]? = some (.inl (2, 61, .inl f))) (h1 : EE' (3 + j) = eCmb 0 (B j).1.1 I.1) (h2 : sR (sCmb 0 (B j).1.2 I.2) (SS' (3 + j))) (h3 : ∀ i, i ≠ 3 + j → i ≠ 9 → i ≠ 10 → EE' i = EE i ∧ SS' i = SS i) (h4 : fb' (j + 1) = nI 1) (h5 : ∀ i, i ≠ j + 1 → fb' i = fb i) (hof : wOff h h' 57 11) (hj : j < 5) : pQ (rJoin B (j + 1) nx I false) h t EE SS none h' := by
  refine pQ_join (EE0 := EE) (SS0 := SS) (fb0 := fb) (fs0 := fs) hR (hQ.x x9 hm he a63 a64 a65 a66 a67) (Bool.true_and _) (by rw [hw]; exact h1) (by rw [hw]; exact h2) (fun i hi => h3 _ (by omega) (by omega) (by omega)) h4 ?_ (fun i hi => ⟨h5 i hi, rfl⟩) hof (fun i hi => h3 i (by omega) (by omega) (by omega))
  rw [(hR j (by omega)).2.2.2.2, hw]
section MO15
variable {X : wX}
set_option maxHeartbeats 4000000 in
set_option maxRecDepth 100000 in
theorem m_MO_ch0 {h : wH} {t : List Nat} {EE SS : Nat → List Nat} {ft fb fs : Nat → Int32} {p : Nat} {B : Nat → Br} {j : Nat} (hq : hQ h t EE SS ft fb fs p true (j + 1)) (hR : Rl B (j + 1) EE SS ft fb fs) (hi : pInv t B (j + 1) p) (ht31 : ∀ x ∈ t, x < 1114112) (hw : (B j).2.2.2.2 = 0) (hc0 : rc t p = none) : PM X M_MO_chars 4 0 0 [.ref 57] h (pQ (pChr t B (j + 1) p) h t EE SS) := by
  obtain ⟨⟨wr, fi, hx⟩, htx, hE, h63, h64, h65, h66, h67⟩ := hq
  obtain ⟨tf, tp, t60, thf⟩ := id htx
  have hd5 := hi.1
  have hr := hR j (by omega)
  have hI := hi.at t60 (j := j) (by omega)
  have hk60 := hi.2.2.2.1
  refine PM.at (pl := [some (.ref 57), none, none, none, none]) rfl rfl (by simp [wle, wen]) ?_
  generalize hEN : wEm X 0 0 _ = EN
  refine w_aload_n d_MO_chars_0 rfl rfl ?_
  refine w_callV (as := []) (st := []) d_MO_chars_1 yM_MO_readChar l_MO_165 vM_MO_readChar hx rfl rfl rfl rfl (m_MO_readChar hx htx ht31 (by omega)) (by decide) (by decide) (by decide) (by decide) (Nat.le_of_ble_eq_true rfl) ?_
  rintro _ g1 ⟨K1, va, ka, rfl, xa, ba, ca⟩
  refine w_eq (st' := [.int (va)]) rfl ?_
  rw [hc0] at xa
  have hkp : ∀ q, q ≠ 57 → (q < 59 ∨ 63 ≤ q) → g1[q]? = h[q]? := fun q h8 _ => K1 q h8
  refine w_istore_n d_MO_chars_4 (by decide) ?_
  refine w_pl (pl' := [some (.ref 57), some (.int (va)), none, none, none]) rfl ?_
  refine w_iload_n d_MO_chars_5 rfl ?_
  refine w_istore_n d_MO_chars_6 (by decide) ?_
  refine w_pl (pl' := [some (.ref 57), some (.int (va)), some (.int (va)), none, none]) rfl ?_
  refine w_aload_n d_MO_chars_7 rfl rfl ?_
  refine w_aload_n d_MO_chars_8 rfl rfl ?_
  refine w_get d_MO_chars_9 f_MO_86 xa rfl ?_
  refine w_callV (as := [.int (nI ka)]) (st := []) d_MO_chars_12 yM_MO_pastSpaces l_MO_162 vM_MO_pastSpaces xa rfl rfl rfl rfl (m_MO_past (k := ka) xa (htx.keep K1) ht31 (by omega)) (by decide) (by decide) (by decide) (by decide) (Nat.le_of_ble_eq_true rfl) ?_
  rintro _ h9_1 ⟨rfl, e9_1⟩
  rw [e9_1]
  refine w_eq (st' := [.int (nI (pSp t ka))]) rfl ?_
  refine w_istore_n d_MO_chars_15 (by decide) ?_
  refine w_pl (pl' := [some (.ref 57), some (.int (va)), some (.int (va)), some (.int (nI (pSp t ka))), none]) rfl ?_
  refine w_aload_n d_MO_chars_16 rfl rfl ?_
  refine w_get d_MO_chars_17 f_MO_93 xa rfl ?_
  refine w_if_eq (tgt := 64) d_MO_chars_20 rfl (fun _ => ?_) (fun z => absurd rfl z)
  refine w_aload_n d_MO_chars_64 rfl rfl ?_
  refine w_aload_n d_MO_chars_65 rfl rfl ?_
  refine w_get d_MO_chars_66 f_MO_93 xa rfl ?_
  refine w_if_eq (tgt := 81) d_MO_chars_69 rfl (fun _ => ?_) (fun z => absurd rfl z)
  refine w_iconst (v := nI 0) d_MO_chars_81 (by decide) ?_
  refine w_put d_MO_chars_82 f_MO_93 rfl xa rfl rfl rfl ?_
  refine w_nm (fun h2 e2 => ?_)
  have xa_2 := wS_eq e2 xa
  refine w_aload_n d_MO_chars_85 rfl rfl ?_
  refine w_get d_MO_chars_86 f_MO_93 xa_2 rfl ?_
  refine w_if_eq (tgt := 102) d_MO_chars_89 rfl (fun _ => ?_) (fun z => absurd (by decide) z)
  refine w_aload_n d_MO_chars_102 rfl rfl ?_
  refine w_iconst (v := nI 1) d_MO_chars_103 (by decide) ?_
  have K4 : ∀ q, q ≠ 57 → (q < 59 ∨ 63 ≤ q) → h2[q]? = h[q]? := fun q h8 h9 => by rw [wS_off e2 (by omega)]; exact hkp q h8 h9
  have em4 : mE h2 EE SS := hE.keep (fun q hq9 => by rw [wS_off e2 (by omega)]; exact K1 q hq9)
  refine w_callV (as := [.int (nI 1)]) (st := []) d_MO_chars_104 yM_MO_ended l_MO_156 vM_MO_ended xa_2 rfl rfl rfl rfl (m_MO_ended (g := false) (w9 := nI 1) xa_2 em4 (by omega) ((K4 64 (by omega) (by omega)).trans h64)) (by decide) (by decide) (by decide) (by decide) (Nat.le_of_ble_eq_true rfl) ?_
  rintro _ g9 ⟨rfl, x9, ⟨fb9, a9, b9, c9⟩, k9⟩
  refine w_eq (st' := []) rfl ?_
  have KK : ∀ q, q < 57 ∨ q = 58 ∨ q = 63 ∨ 65 ≤ q → g9[q]? = h[q]? := fun q hq9 => (k9 q (by omega) (by omega)).trans (K4 q (by omega) (by omega))
  have em9 : mE g9 EE SS := em4.k2 (fun q _ _ => k9 q (by omega) (by omega))
  rw [← hEN]
  refine w_vret d_MO_chars_107 rfl ?_
  have hres : pChr t B (j + 1) p = none := by unfold pChr; rw [hc0]
  rw [hres]
  exact pQ_no (hQ.x x9 (htx.k2 (KK 58 (by omega))) em9 ((KK 63 (by omega)).trans h63) a9 ((KK 65 (by omega)).trans h65) (ex_k h66 (KK 66 (by omega))) (ex_k h67 (KK 67 (by omega)))) (fun q hq9 => KK q (by omega)) (fun _ _ => ⟨rfl, rfl⟩)
set_option maxHeartbeats 4000000 in
set_option maxRecDepth 100000 in
theorem m_MO_ch1 {h : wH} {t : List Nat} {EE SS : Nat → List Nat} {ft fb fs : Nat → Int32} {p : Nat} {B : Nat → Br} {j : Nat} (hq : hQ h t EE SS ft fb fs p true (j + 1)) (hR : Rl B (j + 1) EE SS ft fb fs) (hi : pInv t B (j + 1) p) (ht31 : ∀ x ∈ t, x < 1114112) (hw : (B j).2.2.2.2 = 0) {a k1 : Nat} (hc0 : rc t p = some (a, k1)) (h45 : ¬ t[pSp t k1]? = some 45) : PM X M_MO_chars 4 0 0 [.ref 57] h (pQ (pChr t B (j + 1) p) h t EE SS) := by
  obtain ⟨⟨wr, fi, hx⟩, htx, hE, h63, h64, h65, h66, h67⟩ := hq
  obtain ⟨tf, tp, t60, thf⟩ := id htx
  have hd5 := hi.1
  have hr := hR j (by omega)
  have hI := hi.at t60 (j := j) (by omega)
  have hk60 := hi.2.2.2.1
  have ho := rc_ok ht31 hc0
  have hs1 := pSp_b t k1
  refine PM.at (pl := [some (.ref 57), none, none, none, none]) rfl rfl (by simp [wle, wen]) ?_
  generalize hEN : wEm X 0 0 _ = EN
  refine w_aload_n d_MO_chars_0 rfl rfl ?_
  refine w_callV (as := []) (st := []) d_MO_chars_1 yM_MO_readChar l_MO_165 vM_MO_readChar hx rfl rfl rfl rfl (m_MO_readChar hx htx ht31 (by omega)) (by decide) (by decide) (by decide) (by decide) (Nat.le_of_ble_eq_true rfl) ?_
  rintro _ g1 ⟨K1, va, ka, rfl, xa, ba, ca⟩
  refine w_eq (st' := [.int (va)]) rfl ?_
  refine w_topi (y := nI a) (ca _ _ hc0).1 ?_
  rw [(ca _ _ hc0).2, hc0] at xa
  have hkp : ∀ q, q ≠ 57 → (q < 59 ∨ 63 ≤ q) → g1[q]? = h[q]? := fun q h8 _ => K1 q h8
  refine w_istore_n d_MO_chars_4 (by decide) ?_
  refine w_pl (pl' := [some (.ref 57), some (.int (nI a)), none, none, none]) rfl ?_
  refine w_iload_n d_MO_chars_5 rfl ?_
  refine w_istore_n d_MO_chars_6 (by decide) ?_
  refine w_pl (pl' := [some (.ref 57), some (.int (nI a)), some (.int (nI a)), none, none]) rfl ?_
  refine w_aload_n d_MO_chars_7 rfl rfl ?_
  refine w_aload_n d_MO_chars_8 rfl rfl ?_
  refine w_get d_MO_chars_9 f_MO_86 xa rfl ?_
  refine w_callV (as := [.int (nI k1)]) (st := []) d_MO_chars_12 yM_MO_pastSpaces l_MO_162 vM_MO_pastSpaces xa rfl rfl rfl rfl (m_MO_past (k := k1) xa (htx.keep K1) ht31 (by omega)) (by decide) (by decide) (by decide) (by decide) (Nat.le_of_ble_eq_true rfl) ?_
  rintro _ h9_1 ⟨rfl, e9_1⟩
  rw [e9_1]
  refine w_eq (st' := [.int (nI (pSp t k1))]) rfl ?_
  refine w_istore_n d_MO_chars_15 (by decide) ?_
  refine w_pl (pl' := [some (.ref 57), some (.int (nI a)), some (.int (nI a)), some (.int (nI (pSp t k1))), none]) rfl ?_
  refine w_aload_n d_MO_chars_16 rfl rfl ?_
  refine w_get d_MO_chars_17 f_MO_93 xa rfl ?_
  refine w_if_eq (tgt := 64) d_MO_chars_20 rfl (fun z => absurd z (show ¬ nI 1 = 0 by decide)) (fun _ => ?_)
  refine w_aload_n d_MO_chars_23 rfl rfl ?_
  refine w_iload_n d_MO_chars_24 rfl ?_
  refine w_bipush (v := nI 45) d_MO_chars_25 (by decide) ?_
  refine w_callV (as := [.int (nI (pSp t k1)), .int (nI 45)]) (st := []) d_MO_chars_27 yM_MO_is l_MO_83 vM_MO_is xa rfl rfl rfl rfl (m_MO_is xa (htx.keep K1) ht31 (by omega) (by decide)) (by decide) (by decide) (by decide) (by decide) (Nat.le_of_ble_eq_true rfl) ?_
  rintro _ h9_2 ⟨rfl, e9_2⟩
  rw [e9_2]
  refine w_eq (st' := [.int (bI (decide (t[pSp t k1]? = some 45)))]) rfl ?_
  refine w_if_eq (tgt := 64) d_MO_chars_30 rfl (fun _ => ?_) (fun z => absurd (by rw [decide_eq_false h45]; rfl) z)
  refine w_aload_n d_MO_chars_64 rfl rfl ?_
  refine w_aload_n d_MO_chars_65 rfl rfl ?_
  refine w_get d_MO_chars_66 f_MO_93 xa rfl ?_
  refine w_if_eq (tgt := 81) d_MO_chars_69 rfl (fun z => absurd z (show ¬ nI 1 = 0 by decide)) (fun _ => ?_)
  refine w_iload_n d_MO_chars_72 rfl ?_
  refine w_iload_n d_MO_chars_73 rfl ?_
  refine w_icmp_gt (tgt := 81) d_MO_chars_74 rfl (fun z => absurd z (fun z => by have := (nI_ltI (by omega) (by omega)).mp z; omega)) (fun _ => ?_)
  refine w_iconst (v := nI 1) d_MO_chars_77 (by decide) ?_
  refine w_goto (tgt := 82) d_MO_chars_78 rfl ?_
  refine w_put d_MO_chars_82 f_MO_93 rfl xa rfl rfl rfl ?_
  refine w_nm (fun h3 e3 => ?_)
  have xa_3 := wS_eq e3 xa
  refine w_aload_n d_MO_chars_85 rfl rfl ?_
  refine w_get d_MO_chars_86 f_MO_93 xa_3 rfl ?_
  refine w_if_eq (tgt := 102) d_MO_chars_89 rfl (fun z => absurd z (by decide)) (fun _ => ?_)
  refine w_aload_n d_MO_chars_92 rfl rfl ?_
  refine w_aload_n d_MO_chars_93 rfl rfl ?_
  refine w_callV (as := []) (st := [.ref 57]) d_MO_chars_94 yM_MO_level l_MO_152 vM_MO_level xa_3 rfl rfl rfl rfl (m_MO_level xa_3) (by decide) (by decide) (by decide) (by decide) (Nat.le_of_ble_eq_true rfl) ?_
  rintro _ h9_4 ⟨rfl, e9_4⟩
  rw [e9_4]
  refine w_eq (st' := [.int (nI (3 + j)), .ref 57]) rfl ?_
  refine w_iload_n d_MO_chars_97 rfl ?_
  refine w_iload_n d_MO_chars_98 rfl ?_
  have K4 : ∀ q, q ≠ 57 → (q < 59 ∨ 63 ≤ q) → h3[q]? = h[q]? := fun q h8 h9 => by rw [wS_off e3 (by omega)]; exact hkp q h8 h9
  have em4 : mE h3 EE SS := hE.keep (fun q hq9 => by rw [wS_off e3 (by omega)]; exact K1 q hq9)
  refine w_callV (as := [.int (nI (3 + j)), .int (nI a), .int (nI a)]) (st := []) d_MO_chars_99 yM_MO_addRange l_MO_123 vM_MO_addRange xa_3 rfl rfl rfl rfl (m_MO_addRange (t := 3 + j) (a := a) (c := a) xa_3 em4 (by omega) (by omega) (by omega) (by omega) (by omega) (by rw [hr.1]; exact hI.1) (by rw [hr.1]; have := hI.2.1; omega) (sR_sOk hr.2.1 hI.2.2.1)) (by decide) (by decide) (by decide) (by decide) (Nat.le_of_ble_eq_true rfl) ?_
  rintro _ g5 ⟨rfl, o5, F5, T5, em5, q5, r5, k5⟩
  refine w_eq (st' := []) rfl ?_
  have x5 := (o5 57 (by omega)).trans xa_3
  have K5 : ∀ q, q ≠ 57 → (q < 59 ∨ 63 ≤ q) → g5[q]? = h[q]? := fun q h8 h9 => (o5 q (by omega)).trans (K4 q h8 h9)
  refine w_aload_n d_MO_chars_102 rfl rfl ?_
  refine w_iconst (v := nI 1) d_MO_chars_103 (by decide) ?_
  refine w_callV (as := [.int (nI 1)]) (st := []) d_MO_chars_104 yM_MO_ended l_MO_156 vM_MO_ended x5 rfl rfl rfl rfl (m_MO_ended (g := true) (w9 := nI 1) x5 em5 (by omega) ((K5 64 (by omega) (by omega)).trans h64)) (by decide) (by decide) (by decide) (by decide) (Nat.le_of_ble_eq_true rfl) ?_
  rintro _ g9 ⟨rfl, x9, ⟨fb9, a9, b9, c9⟩, k9⟩
  refine w_eq (st' := []) rfl ?_
  have KK : ∀ q, q < 57 ∨ q = 58 ∨ q = 63 ∨ 65 ≤ q → g9[q]? = h[q]? := fun q hq9 => (k9 q (by omega) (by omega)).trans (K5 q (by omega) (by omega))
  have em9 : mE g9 F5 T5 := em5.k2 (fun q _ _ => k9 q (by omega) (by omega))
  rw [← hEN]
  refine w_vret d_MO_chars_107 rfl ?_
  have hres : pChr t B (j + 1) p = rJoin B (j + 1) k1 (rRan a a) false := by unfold pChr; rw [hc0]; dsimp only; rw [if_neg (fun z => h45 z.1)]
  rw [hres]
  refine pQ_put (h9 := h) (EE' := F5) (SS' := T5) hR hw x9 (htx.k2 (KK 58 (by omega))) em9 ((KK 63 (by omega)).trans h63) a9 ((KK 65 (by omega)).trans h65) (ex_k h66 (KK 66 (by omega))) (ex_k h67 (KK 67 (by omega))) (by rw [q5, hr.1]; rfl) (by show sR (sCmb 0 (B j).1.2 []) _; rw [sCmb_nil hr.2.1.1, r5]; exact hr.2.1) k5 b9 c9 (fun q hq9 => KK q (by omega)) (by omega)
set_option maxHeartbeats 4000000 in
set_option maxRecDepth 100000 in
theorem m_MO_ch2 {h : wH} {t : List Nat} {EE SS : Nat → List Nat} {ft fb fs : Nat → Int32} {p : Nat} {B : Nat → Br} {j : Nat} (hq : hQ h t EE SS ft fb fs p true (j + 1)) (hR : Rl B (j + 1) EE SS ft fb fs) (hi : pInv t B (j + 1) p) (ht31 : ∀ x ∈ t, x < 1114112) (hw : (B j).2.2.2.2 = 0) {a k1 : Nat} (hc0 : rc t p = some (a, k1)) (h45 : t[pSp t k1]? = some 45) (h93 : t[pSp t (pSp t k1 + 1)]? = some 93) : PM X M_MO_chars 4 0 0 [.ref 57] h (pQ (pChr t B (j + 1) p) h t EE SS) := by
  obtain ⟨⟨wr, fi, hx⟩, htx, hE, h63, h64, h65, h66, h67⟩ := hq
  obtain ⟨tf, tp, t60, thf⟩ := id htx
  have hd5 := hi.1
  have hr := hR j (by omega)
  have hI := hi.at t60 (j := j) (by omega)
  have hk60 := hi.2.2.2.1
  have ho := rc_ok ht31 hc0
  have hs1 := pSp_b t k1
  have hl45 := lx_lt h45
  have hs2 := pSp_b t (pSp t k1 + 1)
  refine PM.at (pl := [some (.ref 57), none, none, none, none]) rfl rfl (by simp [wle, wen]) ?_
  generalize hEN : wEm X 0 0 _ = EN
  refine w_aload_n d_MO_chars_0 rfl rfl ?_
  refine w_callV (as := []) (st := []) d_MO_chars_1 yM_MO_readChar l_MO_165 vM_MO_readChar hx rfl rfl rfl rfl (m_MO_readChar hx htx ht31 (by omega)) (by decide) (by decide) (by decide) (by decide) (Nat.le_of_ble_eq_true rfl) ?_
  rintro _ g1 ⟨K1, va, ka, rfl, xa, ba, ca⟩
  refine w_eq (st' := [.int (va)]) rfl ?_
  refine w_topi (y := nI a) (ca _ _ hc0).1 ?_
  rw [(ca _ _ hc0).2, hc0] at xa
  have hkp : ∀ q, q ≠ 57 → (q < 59 ∨ 63 ≤ q) → g1[q]? = h[q]? := fun q h8 _ => K1 q h8
  refine w_istore_n d_MO_chars_4 (by decide) ?_
  refine w_pl (pl' := [some (.ref 57), some (.int (nI a)), none, none, none]) rfl ?_
  refine w_iload_n d_MO_chars_5 rfl ?_
  refine w_istore_n d_MO_chars_6 (by decide) ?_
  refine w_pl (pl' := [some (.ref 57), some (.int (nI a)), some (.int (nI a)), none, none]) rfl ?_
  refine w_aload_n d_MO_chars_7 rfl rfl ?_
  refine w_aload_n d_MO_chars_8 rfl rfl ?_
  refine w_get d_MO_chars_9 f_MO_86 xa rfl ?_
  refine w_callV (as := [.int (nI k1)]) (st := []) d_MO_chars_12 yM_MO_pastSpaces l_MO_162 vM_MO_pastSpaces xa rfl rfl rfl rfl (m_MO_past (k := k1) xa (htx.keep K1) ht31 (by omega)) (by decide) (by decide) (by decide) (by decide) (Nat.le_of_ble_eq_true rfl) ?_
  rintro _ h9_1 ⟨rfl, e9_1⟩
  rw [e9_1]
  refine w_eq (st' := [.int (nI (pSp t k1))]) rfl ?_
  refine w_istore_n d_MO_chars_15 (by decide) ?_
  refine w_pl (pl' := [some (.ref 57), some (.int (nI a)), some (.int (nI a)), some (.int (nI (pSp t k1))), none]) rfl ?_
  refine w_aload_n d_MO_chars_16 rfl rfl ?_
  refine w_get d_MO_chars_17 f_MO_93 xa rfl ?_
  refine w_if_eq (tgt := 64) d_MO_chars_20 rfl (fun z => absurd z (show ¬ nI 1 = 0 by decide)) (fun _ => ?_)
  refine w_aload_n d_MO_chars_23 rfl rfl ?_
  refine w_iload_n d_MO_chars_24 rfl ?_
  refine w_bipush (v := nI 45) d_MO_chars_25 (by decide) ?_
  refine w_callV (as := [.int (nI (pSp t k1)), .int (nI 45)]) (st := []) d_MO_chars_27 yM_MO_is l_MO_83 vM_MO_is xa rfl rfl rfl rfl (m_MO_is xa (htx.keep K1) ht31 (by omega) (by decide)) (by decide) (by decide) (by decide) (by decide) (Nat.le_of_ble_eq_true rfl) ?_
  rintro _ h9_2 ⟨rfl, e9_2⟩
  rw [e9_2]
  refine w_eq (st' := [.int (bI (decide (t[pSp t k1]? = some 45)))]) rfl ?_
  refine w_if_eq (tgt := 64) d_MO_chars_30 rfl (fun z => absurd z (by rw [decide_eq_true h45]; decide)) (fun _ => ?_)
  refine w_aload_n d_MO_chars_33 rfl rfl ?_
  refine w_iload_n d_MO_chars_34 rfl ?_
  refine w_iconst (v := nI 1) d_MO_chars_35 (by decide) ?_
  refine w_iadd d_MO_chars_36 ?_
  refine w_topi (y := nI (pSp t k1 + 1)) (nI_1 _) ?_
  refine w_callV (as := [.int (nI (pSp t k1 + 1))]) (st := []) d_MO_chars_37 yM_MO_pastSpaces l_MO_162 vM_MO_pastSpaces xa rfl rfl rfl rfl (m_MO_past xa (htx.keep K1) ht31 (by omega)) (by decide) (by decide) (by decide) (by decide) (Nat.le_of_ble_eq_true rfl) ?_
  rintro _ h9_3 ⟨rfl, e9_3⟩
  rw [e9_3]
  refine w_eq (st' := [.int (nI (pSp t (pSp t k1 + 1)))]) rfl ?_
  refine w_istore d_MO_chars_40 (by decide) ?_
  refine w_pl (pl' := [some (.ref 57), some (.int (nI a)), some (.int (nI a)), some (.int (nI (pSp t k1))), some (.int (nI (pSp t (pSp t k1 + 1))))]) rfl ?_
  refine w_aload_n d_MO_chars_42 rfl rfl ?_
  refine w_iload d_MO_chars_43 rfl ?_
  refine w_bipush (v := nI 93) d_MO_chars_45 (by decide) ?_
  refine w_callV (as := [.int (nI (pSp t (pSp t k1 + 1))), .int (nI 93)]) (st := []) d_MO_chars_47 yM_MO_is l_MO_83 vM_MO_is xa rfl rfl rfl rfl (m_MO_is xa (htx.keep K1) ht31 (by omega) (by decide)) (by decide) (by decide) (by decide) (by decide) (Nat.le_of_ble_eq_true rfl) ?_
  rintro _ h9_4 ⟨rfl, e9_4⟩
  rw [e9_4]
  refine w_eq (st' := [.int (bI (decide (t[pSp t (pSp t k1 + 1)]? = some 93)))]) rfl ?_
  refine w_if_ne (tgt := 64) d_MO_chars_50 rfl (fun _ => ?_) (fun z => absurd z (by rw [decide_eq_true h93]; decide))
  refine w_aload_n d_MO_chars_64 rfl rfl ?_
  refine w_aload_n d_MO_chars_65 rfl rfl ?_
  refine w_get d_MO_chars_66 f_MO_93 xa rfl ?_
  refine w_if_eq (tgt := 81) d_MO_chars_69 rfl (fun z => absurd z (show ¬ nI 1 = 0 by decide)) (fun _ => ?_)
  refine w_iload_n d_MO_chars_72 rfl ?_
  refine w_iload_n d_MO_chars_73 rfl ?_
  refine w_icmp_gt (tgt := 81) d_MO_chars_74 rfl (fun z => absurd z (fun z => by have := (nI_ltI (by omega) (by omega)).mp z; omega)) (fun _ => ?_)
  refine w_iconst (v := nI 1) d_MO_chars_77 (by decide) ?_
  refine w_goto (tgt := 82) d_MO_chars_78 rfl ?_
  refine w_put d_MO_chars_82 f_MO_93 rfl xa rfl rfl rfl ?_
  refine w_nm (fun h5 e5 => ?_)
  have xa_5 := wS_eq e5 xa
  refine w_aload_n d_MO_chars_85 rfl rfl ?_
  refine w_get d_MO_chars_86 f_MO_93 xa_5 rfl ?_
  refine w_if_eq (tgt := 102) d_MO_chars_89 rfl (fun z => absurd z (by decide)) (fun _ => ?_)
  refine w_aload_n d_MO_chars_92 rfl rfl ?_
  refine w_aload_n d_MO_chars_93 rfl rfl ?_
  refine w_callV (as := []) (st := [.ref 57]) d_MO_chars_94 yM_MO_level l_MO_152 vM_MO_level xa_5 rfl rfl rfl rfl (m_MO_level xa_5) (by decide) (by decide) (by decide) (by decide) (Nat.le_of_ble_eq_true rfl) ?_
  rintro _ h9_6 ⟨rfl, e9_6⟩
  rw [e9_6]
  refine w_eq (st' := [.int (nI (3 + j)), .ref 57]) rfl ?_
  refine w_iload_n d_MO_chars_97 rfl ?_
  refine w_iload_n d_MO_chars_98 rfl ?_
  have K4 : ∀ q, q ≠ 57 → (q < 59 ∨ 63 ≤ q) → h5[q]? = h[q]? := fun q h8 h9 => by rw [wS_off e5 (by omega)]; exact hkp q h8 h9
  have em4 : mE h5 EE SS := hE.keep (fun q hq9 => by rw [wS_off e5 (by omega)]; exact K1 q hq9)
  refine w_callV (as := [.int (nI (3 + j)), .int (nI a), .int (nI a)]) (st := []) d_MO_chars_99 yM_MO_addRange l_MO_123 vM_MO_addRange xa_5 rfl rfl rfl rfl (m_MO_addRange (t := 3 + j) (a := a) (c := a) xa_5 em4 (by omega) (by omega) (by omega) (by omega) (by omega) (by rw [hr.1]; exact hI.1) (by rw [hr.1]; have := hI.2.1; omega) (sR_sOk hr.2.1 hI.2.2.1)) (by decide) (by decide) (by decide) (by decide) (Nat.le_of_ble_eq_true rfl) ?_
  rintro _ g5 ⟨rfl, o5, F5, T5, em5, q5, r5, k5⟩
  refine w_eq (st' := []) rfl ?_
  have x5 := (o5 57 (by omega)).trans xa_5
  have K5 : ∀ q, q ≠ 57 → (q < 59 ∨ 63 ≤ q) → g5[q]? = h[q]? := fun q h8 h9 => (o5 q (by omega)).trans (K4 q h8 h9)
  refine w_aload_n d_MO_chars_102 rfl rfl ?_
  refine w_iconst (v := nI 1) d_MO_chars_103 (by decide) ?_
  refine w_callV (as := [.int (nI 1)]) (st := []) d_MO_chars_104 yM_MO_ended l_MO_156 vM_MO_ended x5 rfl rfl rfl rfl (m_MO_ended (g := true) (w9 := nI 1) x5 em5 (by omega) ((K5 64 (by omega) (by omega)).trans h64)) (by decide) (by decide) (by decide) (by decide) (Nat.le_of_ble_eq_true rfl) ?_
  rintro _ g9 ⟨rfl, x9, ⟨fb9, a9, b9, c9⟩, k9⟩
  refine w_eq (st' := []) rfl ?_
  have KK : ∀ q, q < 57 ∨ q = 58 ∨ q = 63 ∨ 65 ≤ q → g9[q]? = h[q]? := fun q hq9 => (k9 q (by omega) (by omega)).trans (K5 q (by omega) (by omega))
  have em9 : mE g9 F5 T5 := em5.k2 (fun q _ _ => k9 q (by omega) (by omega))
  rw [← hEN]
  refine w_vret d_MO_chars_107 rfl ?_
  have hres : pChr t B (j + 1) p = rJoin B (j + 1) k1 (rRan a a) false := by unfold pChr; rw [hc0]; dsimp only; rw [if_neg (fun z => z.2 h93)]
  rw [hres]
  refine pQ_put (h9 := h) (EE' := F5) (SS' := T5) hR hw x9 (htx.k2 (KK 58 (by omega))) em9 ((KK 63 (by omega)).trans h63) a9 ((KK 65 (by omega)).trans h65) (ex_k h66 (KK 66 (by omega))) (ex_k h67 (KK 67 (by omega))) (by rw [q5, hr.1]; rfl) (by show sR (sCmb 0 (B j).1.2 []) _; rw [sCmb_nil hr.2.1.1, r5]; exact hr.2.1) k5 b9 c9 (fun q hq9 => KK q (by omega)) (by omega)
set_option maxHeartbeats 4000000 in
set_option maxRecDepth 100000 in
theorem m_MO_ch3 {h : wH} {t : List Nat} {EE SS : Nat → List Nat} {ft fb fs : Nat → Int32} {p : Nat} {B : Nat → Br} {j : Nat} (hq : hQ h t EE SS ft fb fs p true (j + 1)) (hR : Rl B (j + 1) EE SS ft fb fs) (hi : pInv t B (j + 1) p) (ht31 : ∀ x ∈ t, x < 1114112) (hw : (B j).2.2.2.2 = 0) {a k1 : Nat} (hc0 : rc t p = some (a, k1)) (h45 : t[pSp t k1]? = some 45) (h93 : ¬ t[pSp t (pSp t k1 + 1)]? = some 93) (hc2 : rc t (pSp t (pSp t k1 + 1)) = none) : PM X M_MO_chars 4 0 0 [.ref 57] h (pQ (pChr t B (j + 1) p) h t EE SS) := by
  obtain ⟨⟨wr, fi, hx⟩, htx, hE, h63, h64, h65, h66, h67⟩ := hq
  obtain ⟨tf, tp, t60, thf⟩ := id htx
  have hd5 := hi.1
  have hr := hR j (by omega)
  have hI := hi.at t60 (j := j) (by omega)
  have hk60 := hi.2.2.2.1
  have ho := rc_ok ht31 hc0
  have hs1 := pSp_b t k1
  have hl45 := lx_lt h45
  have hs2 := pSp_b t (pSp t k1 + 1)
  refine PM.at (pl := [some (.ref 57), none, none, none, none]) rfl rfl (by simp [wle, wen]) ?_
  generalize hEN : wEm X 0 0 _ = EN
  refine w_aload_n d_MO_chars_0 rfl rfl ?_
  refine w_callV (as := []) (st := []) d_MO_chars_1 yM_MO_readChar l_MO_165 vM_MO_readChar hx rfl rfl rfl rfl (m_MO_readChar hx htx ht31 (by omega)) (by decide) (by decide) (by decide) (by decide) (Nat.le_of_ble_eq_true rfl) ?_
  rintro _ g1 ⟨K1, va, ka, rfl, xa, ba, ca⟩
  refine w_eq (st' := [.int (va)]) rfl ?_
  refine w_topi (y := nI a) (ca _ _ hc0).1 ?_
  rw [(ca _ _ hc0).2, hc0] at xa
  have hkp : ∀ q, q ≠ 57 → (q < 59 ∨ 63 ≤ q) → g1[q]? = h[q]? := fun q h8 _ => K1 q h8
  refine w_istore_n d_MO_chars_4 (by decide) ?_
  refine w_pl (pl' := [some (.ref 57), some (.int (nI a)), none, none, none]) rfl ?_
  refine w_iload_n d_MO_chars_5 rfl ?_
  refine w_istore_n d_MO_chars_6 (by decide) ?_
  refine w_pl (pl' := [some (.ref 57), some (.int (nI a)), some (.int (nI a)), none, none]) rfl ?_
  refine w_aload_n d_MO_chars_7 rfl rfl ?_
  refine w_aload_n d_MO_chars_8 rfl rfl ?_
  refine w_get d_MO_chars_9 f_MO_86 xa rfl ?_
  refine w_callV (as := [.int (nI k1)]) (st := []) d_MO_chars_12 yM_MO_pastSpaces l_MO_162 vM_MO_pastSpaces xa rfl rfl rfl rfl (m_MO_past (k := k1) xa (htx.keep K1) ht31 (by omega)) (by decide) (by decide) (by decide) (by decide) (Nat.le_of_ble_eq_true rfl) ?_
  rintro _ h9_1 ⟨rfl, e9_1⟩
  rw [e9_1]
  refine w_eq (st' := [.int (nI (pSp t k1))]) rfl ?_
  refine w_istore_n d_MO_chars_15 (by decide) ?_
  refine w_pl (pl' := [some (.ref 57), some (.int (nI a)), some (.int (nI a)), some (.int (nI (pSp t k1))), none]) rfl ?_
  refine w_aload_n d_MO_chars_16 rfl rfl ?_
  refine w_get d_MO_chars_17 f_MO_93 xa rfl ?_
  refine w_if_eq (tgt := 64) d_MO_chars_20 rfl (fun z => absurd z (show ¬ nI 1 = 0 by decide)) (fun _ => ?_)
  refine w_aload_n d_MO_chars_23 rfl rfl ?_
  refine w_iload_n d_MO_chars_24 rfl ?_
  refine w_bipush (v := nI 45) d_MO_chars_25 (by decide) ?_
  refine w_callV (as := [.int (nI (pSp t k1)), .int (nI 45)]) (st := []) d_MO_chars_27 yM_MO_is l_MO_83 vM_MO_is xa rfl rfl rfl rfl (m_MO_is xa (htx.keep K1) ht31 (by omega) (by decide)) (by decide) (by decide) (by decide) (by decide) (Nat.le_of_ble_eq_true rfl) ?_
  rintro _ h9_2 ⟨rfl, e9_2⟩
  rw [e9_2]
  refine w_eq (st' := [.int (bI (decide (t[pSp t k1]? = some 45)))]) rfl ?_
  refine w_if_eq (tgt := 64) d_MO_chars_30 rfl (fun z => absurd z (by rw [decide_eq_true h45]; decide)) (fun _ => ?_)
  refine w_aload_n d_MO_chars_33 rfl rfl ?_
  refine w_iload_n d_MO_chars_34 rfl ?_
  refine w_iconst (v := nI 1) d_MO_chars_35 (by decide) ?_
  refine w_iadd d_MO_chars_36 ?_
  refine w_topi (y := nI (pSp t k1 + 1)) (nI_1 _) ?_
  refine w_callV (as := [.int (nI (pSp t k1 + 1))]) (st := []) d_MO_chars_37 yM_MO_pastSpaces l_MO_162 vM_MO_pastSpaces xa rfl rfl rfl rfl (m_MO_past xa (htx.keep K1) ht31 (by omega)) (by decide) (by decide) (by decide) (by decide) (Nat.le_of_ble_eq_true rfl) ?_
  rintro _ h9_3 ⟨rfl, e9_3⟩
  rw [e9_3]
  refine w_eq (st' := [.int (nI (pSp t (pSp t k1 + 1)))]) rfl ?_
  refine w_istore d_MO_chars_40 (by decide) ?_
  refine w_pl (pl' := [some (.ref 57), some (.int (nI a)), some (.int (nI a)), some (.int (nI (pSp t k1))), some (.int (nI (pSp t (pSp t k1 + 1))))]) rfl ?_
  refine w_aload_n d_MO_chars_42 rfl rfl ?_
  refine w_iload d_MO_chars_43 rfl ?_
  refine w_bipush (v := nI 93) d_MO_chars_45 (by decide) ?_
  refine w_callV (as := [.int (nI (pSp t (pSp t k1 + 1))), .int (nI 93)]) (st := []) d_MO_chars_47 yM_MO_is l_MO_83 vM_MO_is xa rfl rfl rfl rfl (m_MO_is xa (htx.keep K1) ht31 (by omega) (by decide)) (by decide) (by decide) (by decide) (by decide) (Nat.le_of_ble_eq_true rfl) ?_
  rintro _ h9_4 ⟨rfl, e9_4⟩
  rw [e9_4]
  refine w_eq (st' := [.int (bI (decide (t[pSp t (pSp t k1 + 1)]? = some 93)))]) rfl ?_
  refine w_if_ne (tgt := 64) d_MO_chars_50 rfl (fun z => absurd (by rw [decide_eq_false h93]; rfl) z) (fun _ => ?_)
  refine w_aload_n d_MO_chars_53 rfl rfl ?_
  refine w_iload d_MO_chars_54 rfl ?_
  refine w_put d_MO_chars_56 f_MO_86 rfl xa rfl rfl rfl ?_
  refine w_nm (fun h5 e5 => ?_)
  have xa_5 := wS_eq e5 xa
  refine w_aload_n d_MO_chars_59 rfl rfl ?_
  have K2 : ∀ q, q ≠ 57 → h5[q]? = h[q]? := fun q hq9 => by rw [wS_off e5 (by omega)]; exact K1 q hq9
  refine w_callV (as := []) (st := []) d_MO_chars_60 yM_MO_readChar l_MO_165 vM_MO_readChar xa_5 rfl rfl rfl rfl (m_MO_readChar (k := pSp t (pSp t k1 + 1)) xa_5 (htx.keep K2) ht31 (by omega)) (by decide) (by decide) (by decide) (by decide) (Nat.le_of_ble_eq_true rfl) ?_
  rintro _ g2 ⟨K3, vb, kb, rfl, xb, bb, cb⟩
  refine w_eq (st' := [.int (vb)]) rfl ?_
  rw [hc2] at xb
  have hkp : ∀ q, q ≠ 57 → (q < 59 ∨ 63 ≤ q) → g2[q]? = h[q]? := fun q h8 _ => (K3 q h8).trans (K2 q h8)
  refine w_istore_n d_MO_chars_63 (by decide) ?_
  refine w_pl (pl' := [some (.ref 57), some (.int (nI a)), some (.int (vb)), some (.int (nI (pSp t k1))), some (.int (nI (pSp t (pSp t k1 + 1))))]) rfl ?_
  refine w_aload_n d_MO_chars_64 rfl rfl ?_
  refine w_aload_n d_MO_chars_65 rfl rfl ?_
  refine w_get d_MO_chars_66 f_MO_93 xb rfl ?_
  refine w_if_eq (tgt := 81) d_MO_chars_69 rfl (fun _ => ?_) (fun z => absurd rfl z)
  refine w_iconst (v := nI 0) d_MO_chars_81 (by decide) ?_
  refine w_put d_MO_chars_82 f_MO_93 rfl xb rfl rfl rfl ?_
  refine w_nm (fun h6 e6 => ?_)
  have xb_6 := wS_eq e6 xb
  refine w_aload_n d_MO_chars_85 rfl rfl ?_
  refine w_get d_MO_chars_86 f_MO_93 xb_6 rfl ?_
  refine w_if_eq (tgt := 102) d_MO_chars_89 rfl (fun _ => ?_) (fun z => absurd (by decide) z)
  refine w_aload_n d_MO_chars_102 rfl rfl ?_
  refine w_iconst (v := nI 1) d_MO_chars_103 (by decide) ?_
  have K4 : ∀ q, q ≠ 57 → (q < 59 ∨ 63 ≤ q) → h6[q]? = h[q]? := fun q h8 h9 => by rw [wS_off e6 (by omega)]; exact hkp q h8 h9
  have em4 : mE h6 EE SS := hE.keep (fun q hq9 => by rw [wS_off e6 (by omega)]; exact (K3 q hq9).trans (K2 q hq9))
  refine w_callV (as := [.int (nI 1)]) (st := []) d_MO_chars_104 yM_MO_ended l_MO_156 vM_MO_ended xb_6 rfl rfl rfl rfl (m_MO_ended (g := false) (w9 := nI 1) xb_6 em4 (by omega) ((K4 64 (by omega) (by omega)).trans h64)) (by decide) (by decide) (by decide) (by decide) (Nat.le_of_ble_eq_true rfl) ?_
  rintro _ g9 ⟨rfl, x9, ⟨fb9, a9, b9, c9⟩, k9⟩
  refine w_eq (st' := []) rfl ?_
  have KK : ∀ q, q < 57 ∨ q = 58 ∨ q = 63 ∨ 65 ≤ q → g9[q]? = h[q]? := fun q hq9 => (k9 q (by omega) (by omega)).trans (K4 q (by omega) (by omega))
  have em9 : mE g9 EE SS := em4.k2 (fun q _ _ => k9 q (by omega) (by omega))
  rw [← hEN]
  refine w_vret d_MO_chars_107 rfl ?_
  have hres : pChr t B (j + 1) p = none := by unfold pChr; rw [hc0]; dsimp only; rw [if_pos ⟨h45, h93⟩, hc2]
  rw [hres]
  exact pQ_no (hQ.x x9 (htx.k2 (KK 58 (by omega))) em9 ((KK 63 (by omega)).trans h63) a9 ((KK 65 (by omega)).trans h65) (ex_k h66 (KK 66 (by omega))) (ex_k h67 (KK 67 (by omega)))) (fun q hq9 => KK q (by omega)) (fun _ _ => ⟨rfl, rfl⟩)
set_option maxHeartbeats 4000000 in
set_option maxRecDepth 100000 in
theorem m_MO_ch4 {h : wH} {t : List Nat} {EE SS : Nat → List Nat} {ft fb fs : Nat → Int32} {p : Nat} {B : Nat → Br} {j : Nat} (hq : hQ h t EE SS ft fb fs p true (j + 1)) (hR : Rl B (j + 1) EE SS ft fb fs) (hi : pInv t B (j + 1) p) (ht31 : ∀ x ∈ t, x < 1114112) (hw : (B j).2.2.2.2 = 0) {a k1 : Nat} (hc0 : rc t p = some (a, k1)) (h45 : t[pSp t k1]? = some 45) (h93 : ¬ t[pSp t (pSp t k1 + 1)]? = some 93) {b k2 : Nat} (hc2 : rc t (pSp t (pSp t k1 + 1)) = some (b, k2)) (hab : a ≤ b) : PM X M_MO_chars 4 0 0 [.ref 57] h (pQ (pChr t B (j + 1) p) h t EE SS) := by
  obtain ⟨⟨wr, fi, hx⟩, htx, hE, h63, h64, h65, h66, h67⟩ := hq
  obtain ⟨tf, tp, t60, thf⟩ := id htx
  have hd5 := hi.1
  have hr := hR j (by omega)
  have hI := hi.at t60 (j := j) (by omega)
  have hk60 := hi.2.2.2.1
  have ho := rc_ok ht31 hc0
  have hs1 := pSp_b t k1
  have hl45 := lx_lt h45
  have hs2 := pSp_b t (pSp t k1 + 1)
  have ho2 := rc_ok ht31 hc2
  refine PM.at (pl := [some (.ref 57), none, none, none, none]) rfl rfl (by simp [wle, wen]) ?_
  generalize hEN : wEm X 0 0 _ = EN
  refine w_aload_n d_MO_chars_0 rfl rfl ?_
  refine w_callV (as := []) (st := []) d_MO_chars_1 yM_MO_readChar l_MO_165 vM_MO_readChar hx rfl rfl rfl rfl (m_MO_readChar hx htx ht31 (by omega)) (by decide) (by decide) (by decide) (by decide) (Nat.le_of_ble_eq_true rfl) ?_
  rintro _ g1 ⟨K1, va, ka, rfl, xa, ba, ca⟩
  refine w_eq (st' := [.int (va)]) rfl ?_
  refine w_topi (y := nI a) (ca _ _ hc0).1 ?_
  rw [(ca _ _ hc0).2, hc0] at xa
  have hkp : ∀ q, q ≠ 57 → (q < 59 ∨ 63 ≤ q) → g1[q]? = h[q]? := fun q h8 _ => K1 q h8
  refine w_istore_n d_MO_chars_4 (by decide) ?_
  refine w_pl (pl' := [some (.ref 57), some (.int (nI a)), none, none, none]) rfl ?_
  refine w_iload_n d_MO_chars_5 rfl ?_
  refine w_istore_n d_MO_chars_6 (by decide) ?_
  refine w_pl (pl' := [some (.ref 57), some (.int (nI a)), some (.int (nI a)), none, none]) rfl ?_
  refine w_aload_n d_MO_chars_7 rfl rfl ?_
  refine w_aload_n d_MO_chars_8 rfl rfl ?_
  refine w_get d_MO_chars_9 f_MO_86 xa rfl ?_
  refine w_callV (as := [.int (nI k1)]) (st := []) d_MO_chars_12 yM_MO_pastSpaces l_MO_162 vM_MO_pastSpaces xa rfl rfl rfl rfl (m_MO_past (k := k1) xa (htx.keep K1) ht31 (by omega)) (by decide) (by decide) (by decide) (by decide) (Nat.le_of_ble_eq_true rfl) ?_
  rintro _ h9_1 ⟨rfl, e9_1⟩
  rw [e9_1]
  refine w_eq (st' := [.int (nI (pSp t k1))]) rfl ?_
  refine w_istore_n d_MO_chars_15 (by decide) ?_
  refine w_pl (pl' := [some (.ref 57), some (.int (nI a)), some (.int (nI a)), some (.int (nI (pSp t k1))), none]) rfl ?_
  refine w_aload_n d_MO_chars_16 rfl rfl ?_
  refine w_get d_MO_chars_17 f_MO_93 xa rfl ?_
  refine w_if_eq (tgt := 64) d_MO_chars_20 rfl (fun z => absurd z (show ¬ nI 1 = 0 by decide)) (fun _ => ?_)
  refine w_aload_n d_MO_chars_23 rfl rfl ?_
  refine w_iload_n d_MO_chars_24 rfl ?_
  refine w_bipush (v := nI 45) d_MO_chars_25 (by decide) ?_
  refine w_callV (as := [.int (nI (pSp t k1)), .int (nI 45)]) (st := []) d_MO_chars_27 yM_MO_is l_MO_83 vM_MO_is xa rfl rfl rfl rfl (m_MO_is xa (htx.keep K1) ht31 (by omega) (by decide)) (by decide) (by decide) (by decide) (by decide) (Nat.le_of_ble_eq_true rfl) ?_
  rintro _ h9_2 ⟨rfl, e9_2⟩
  rw [e9_2]
  refine w_eq (st' := [.int (bI (decide (t[pSp t k1]? = some 45)))]) rfl ?_
  refine w_if_eq (tgt := 64) d_MO_chars_30 rfl (fun z => absurd z (by rw [decide_eq_true h45]; decide)) (fun _ => ?_)
  refine w_aload_n d_MO_chars_33 rfl rfl ?_
  refine w_iload_n d_MO_chars_34 rfl ?_
  refine w_iconst (v := nI 1) d_MO_chars_35 (by decide) ?_
  refine w_iadd d_MO_chars_36 ?_
  refine w_topi (y := nI (pSp t k1 + 1)) (nI_1 _) ?_
  refine w_callV (as := [.int (nI (pSp t k1 + 1))]) (st := []) d_MO_chars_37 yM_MO_pastSpaces l_MO_162 vM_MO_pastSpaces xa rfl rfl rfl rfl (m_MO_past xa (htx.keep K1) ht31 (by omega)) (by decide) (by decide) (by decide) (by decide) (Nat.le_of_ble_eq_true rfl) ?_
  rintro _ h9_3 ⟨rfl, e9_3⟩
  rw [e9_3]
  refine w_eq (st' := [.int (nI (pSp t (pSp t k1 + 1)))]) rfl ?_
  refine w_istore d_MO_chars_40 (by decide) ?_
  refine w_pl (pl' := [some (.ref 57), some (.int (nI a)), some (.int (nI a)), some (.int (nI (pSp t k1))), some (.int (nI (pSp t (pSp t k1 + 1))))]) rfl ?_
  refine w_aload_n d_MO_chars_42 rfl rfl ?_
  refine w_iload d_MO_chars_43 rfl ?_
  refine w_bipush (v := nI 93) d_MO_chars_45 (by decide) ?_
  refine w_callV (as := [.int (nI (pSp t (pSp t k1 + 1))), .int (nI 93)]) (st := []) d_MO_chars_47 yM_MO_is l_MO_83 vM_MO_is xa rfl rfl rfl rfl (m_MO_is xa (htx.keep K1) ht31 (by omega) (by decide)) (by decide) (by decide) (by decide) (by decide) (Nat.le_of_ble_eq_true rfl) ?_
  rintro _ h9_4 ⟨rfl, e9_4⟩
  rw [e9_4]
  refine w_eq (st' := [.int (bI (decide (t[pSp t (pSp t k1 + 1)]? = some 93)))]) rfl ?_
  refine w_if_ne (tgt := 64) d_MO_chars_50 rfl (fun z => absurd (by rw [decide_eq_false h93]; rfl) z) (fun _ => ?_)
  refine w_aload_n d_MO_chars_53 rfl rfl ?_
  refine w_iload d_MO_chars_54 rfl ?_
  refine w_put d_MO_chars_56 f_MO_86 rfl xa rfl rfl rfl ?_
  refine w_nm (fun h5 e5 => ?_)
  have xa_5 := wS_eq e5 xa
  refine w_aload_n d_MO_chars_59 rfl rfl ?_
  have K2 : ∀ q, q ≠ 57 → h5[q]? = h[q]? := fun q hq9 => by rw [wS_off e5 (by omega)]; exact K1 q hq9
  refine w_callV (as := []) (st := []) d_MO_chars_60 yM_MO_readChar l_MO_165 vM_MO_readChar xa_5 rfl rfl rfl rfl (m_MO_readChar (k := pSp t (pSp t k1 + 1)) xa_5 (htx.keep K2) ht31 (by omega)) (by decide) (by decide) (by decide) (by decide) (Nat.le_of_ble_eq_true rfl) ?_
  rintro _ g2 ⟨K3, vb, kb, rfl, xb, bb, cb⟩
  refine w_eq (st' := [.int (vb)]) rfl ?_
  refine w_topi (y := nI b) (cb _ _ hc2).1 ?_
  rw [(cb _ _ hc2).2] at xb
  rw [hc2] at xb
  have hkp : ∀ q, q ≠ 57 → (q < 59 ∨ 63 ≤ q) → g2[q]? = h[q]? := fun q h8 _ => (K3 q h8).trans (K2 q h8)
  refine w_istore_n d_MO_chars_63 (by decide) ?_
  refine w_pl (pl' := [some (.ref 57), some (.int (nI a)), some (.int (nI b)), some (.int (nI (pSp t k1))), some (.int (nI (pSp t (pSp t k1 + 1))))]) rfl ?_
  refine w_aload_n d_MO_chars_64 rfl rfl ?_
  refine w_aload_n d_MO_chars_65 rfl rfl ?_
  refine w_get d_MO_chars_66 f_MO_93 xb rfl ?_
  refine w_if_eq (tgt := 81) d_MO_chars_69 rfl (fun z => absurd z (show ¬ nI 1 = 0 by decide)) (fun _ => ?_)
  refine w_iload_n d_MO_chars_72 rfl ?_
  refine w_iload_n d_MO_chars_73 rfl ?_
  refine w_icmp_gt (tgt := 81) d_MO_chars_74 rfl (fun z => absurd z (fun z => by have := (nI_ltI (by omega) (by omega)).mp z; omega)) (fun _ => ?_)
  refine w_iconst (v := nI 1) d_MO_chars_77 (by decide) ?_
  refine w_goto (tgt := 82) d_MO_chars_78 rfl ?_
  refine w_put d_MO_chars_82 f_MO_93 rfl xb rfl rfl rfl ?_
  refine w_nm (fun h6 e6 => ?_)
  have xb_6 := wS_eq e6 xb
  refine w_aload_n d_MO_chars_85 rfl rfl ?_
  refine w_get d_MO_chars_86 f_MO_93 xb_6 rfl ?_
  refine w_if_eq (tgt := 102) d_MO_chars_89 rfl (fun z => absurd z (by decide)) (fun _ => ?_)
  refine w_aload_n d_MO_chars_92 rfl rfl ?_
  refine w_aload_n d_MO_chars_93 rfl rfl ?_
  refine w_callV (as := []) (st := [.ref 57]) d_MO_chars_94 yM_MO_level l_MO_152 vM_MO_level xb_6 rfl rfl rfl rfl (m_MO_level xb_6) (by decide) (by decide) (by decide) (by decide) (Nat.le_of_ble_eq_true rfl) ?_
  rintro _ h9_7 ⟨rfl, e9_7⟩
  rw [e9_7]
  refine w_eq (st' := [.int (nI (3 + j)), .ref 57]) rfl ?_
  refine w_iload_n d_MO_chars_97 rfl ?_
  refine w_iload_n d_MO_chars_98 rfl ?_
  have K4 : ∀ q, q ≠ 57 → (q < 59 ∨ 63 ≤ q) → h6[q]? = h[q]? := fun q h8 h9 => by rw [wS_off e6 (by omega)]; exact hkp q h8 h9
  have em4 : mE h6 EE SS := hE.keep (fun q hq9 => by rw [wS_off e6 (by omega)]; exact (K3 q hq9).trans (K2 q hq9))
  refine w_callV (as := [.int (nI (3 + j)), .int (nI a), .int (nI b)]) (st := []) d_MO_chars_99 yM_MO_addRange l_MO_123 vM_MO_addRange xb_6 rfl rfl rfl rfl (m_MO_addRange (t := 3 + j) (a := a) (c := b) xb_6 em4 (by omega) (by omega) (by omega) (by omega) (by omega) (by rw [hr.1]; exact hI.1) (by rw [hr.1]; have := hI.2.1; omega) (sR_sOk hr.2.1 hI.2.2.1)) (by decide) (by decide) (by decide) (by decide) (Nat.le_of_ble_eq_true rfl) ?_
  rintro _ g5 ⟨rfl, o5, F5, T5, em5, q5, r5, k5⟩
  refine w_eq (st' := []) rfl ?_
  have x5 := (o5 57 (by omega)).trans xb_6
  have K5 : ∀ q, q ≠ 57 → (q < 59 ∨ 63 ≤ q) → g5[q]? = h[q]? := fun q h8 h9 => (o5 q (by omega)).trans (K4 q h8 h9)
  refine w_aload_n d_MO_chars_102 rfl rfl ?_
  refine w_iconst (v := nI 1) d_MO_chars_103 (by decide) ?_
  refine w_callV (as := [.int (nI 1)]) (st := []) d_MO_chars_104 yM_MO_ended l_MO_156 vM_MO_ended x5 rfl rfl rfl rfl (m_MO_ended (g := true) (w9 := nI 1) x5 em5 (by omega) ((K5 64 (by omega) (by omega)).trans h64)) (by decide) (by decide) (by decide) (by decide) (Nat.le_of_ble_eq_true rfl) ?_
  rintro _ g9 ⟨rfl, x9, ⟨fb9, a9, b9, c9⟩, k9⟩
  refine w_eq (st' := []) rfl ?_
  have KK : ∀ q, q < 57 ∨ q = 58 ∨ q = 63 ∨ 65 ≤ q → g9[q]? = h[q]? := fun q hq9 => (k9 q (by omega) (by omega)).trans (K5 q (by omega) (by omega))
  have em9 : mE g9 F5 T5 := em5.k2 (fun q _ _ => k9 q (by omega) (by omega))
  rw [← hEN]
  refine w_vret d_MO_chars_107 rfl ?_
  have hres : pChr t B (j + 1) p = rJoin B (j + 1) k2 (rRan a b) false := by unfold pChr; rw [hc0]; dsimp only; rw [if_pos ⟨h45, h93⟩, hc2]; dsimp only; rw [if_pos hab]
  rw [hres]
  refine pQ_put (h9 := h) (EE' := F5) (SS' := T5) hR hw x9 (htx.k2 (KK 58 (by omega))) em9 ((KK 63 (by omega)).trans h63) a9 ((KK 65 (by omega)).trans h65) (ex_k h66 (KK 66 (by omega))) (ex_k h67 (KK 67 (by omega))) (by rw [q5, hr.1]; rfl) (by show sR (sCmb 0 (B j).1.2 []) _; rw [sCmb_nil hr.2.1.1, r5]; exact hr.2.1) k5 b9 c9 (fun q hq9 => KK q (by omega)) (by omega)
set_option maxHeartbeats 4000000 in
set_option maxRecDepth 100000 in
theorem m_MO_ch5 {h : wH} {t : List Nat} {EE SS : Nat → List Nat} {ft fb fs : Nat → Int32} {p : Nat} {B : Nat → Br} {j : Nat} (hq : hQ h t EE SS ft fb fs p true (j + 1)) (hR : Rl B (j + 1) EE SS ft fb fs) (hi : pInv t B (j + 1) p) (ht31 : ∀ x ∈ t, x < 1114112) (hw : (B j).2.2.2.2 = 0) {a k1 : Nat} (hc0 : rc t p = some (a, k1)) (h45 : t[pSp t k1]? = some 45) (h93 : ¬ t[pSp t (pSp t k1 + 1)]? = some 93) {b k2 : Nat} (hc2 : rc t (pSp t (pSp t k1 + 1)) = some (b, k2)) (hab : ¬ a ≤ b) : PM X M_MO_chars 4 0 0 [.ref 57] h (pQ (pChr t B (j + 1) p) h t EE SS) := by
  obtain ⟨⟨wr, fi, hx⟩, htx, hE, h63, h64, h65, h66, h67⟩ := hq
  obtain ⟨tf, tp, t60, thf⟩ := id htx
  have hd5 := hi.1
  have hr := hR j (by omega)
  have hI := hi.at t60 (j := j) (by omega)
  have hk60 := hi.2.2.2.1
  have ho := rc_ok ht31 hc0
  have hs1 := pSp_b t k1
  have hl45 := lx_lt h45
  have hs2 := pSp_b t (pSp t k1 + 1)
  have ho2 := rc_ok ht31 hc2
  refine PM.at (pl := [some (.ref 57), none, none, none, none]) rfl rfl (by simp [wle, wen]) ?_
  generalize hEN : wEm X 0 0 _ = EN
  refine w_aload_n d_MO_chars_0 rfl rfl ?_
  refine w_callV (as := []) (st := []) d_MO_chars_1 yM_MO_readChar l_MO_165 vM_MO_readChar hx rfl rfl rfl rfl (m_MO_readChar hx htx ht31 (by omega)) (by decide) (by decide) (by decide) (by decide) (Nat.le_of_ble_eq_true rfl) ?_
  rintro _ g1 ⟨K1, va, ka, rfl, xa, ba, ca⟩
  refine w_eq (st' := [.int (va)]) rfl ?_
  refine w_topi (y := nI a) (ca _ _ hc0).1 ?_
  rw [(ca _ _ hc0).2, hc0] at xa
  have hkp : ∀ q, q ≠ 57 → (q < 59 ∨ 63 ≤ q) → g1[q]? = h[q]? := fun q h8 _ => K1 q h8
  refine w_istore_n d_MO_chars_4 (by decide) ?_
  refine w_pl (pl' := [some (.ref 57), some (.int (nI a)), none, none, none]) rfl ?_
  refine w_iload_n d_MO_chars_5 rfl ?_
  refine w_istore_n d_MO_chars_6 (by decide) ?_
  refine w_pl (pl' := [some (.ref 57), some (.int (nI a)), some (.int (nI a)), none, none]) rfl ?_
  refine w_aload_n d_MO_chars_7 rfl rfl ?_
  refine w_aload_n d_MO_chars_8 rfl rfl ?_
  refine w_get d_MO_chars_9 f_MO_86 xa rfl ?_
  refine w_callV (as := [.int (nI k1)]) (st := []) d_MO_chars_12 yM_MO_pastSpaces l_MO_162 vM_MO_pastSpaces xa rfl rfl rfl rfl (m_MO_past (k := k1) xa (htx.keep K1) ht31 (by omega)) (by decide) (by decide) (by decide) (by decide) (Nat.le_of_ble_eq_true rfl) ?_
  rintro _ h9_1 ⟨rfl, e9_1⟩
  rw [e9_1]
  refine w_eq (st' := [.int (nI (pSp t k1))]) rfl ?_
  refine w_istore_n d_MO_chars_15 (by decide) ?_
  refine w_pl (pl' := [some (.ref 57), some (.int (nI a)), some (.int (nI a)), some (.int (nI (pSp t k1))), none]) rfl ?_
  refine w_aload_n d_MO_chars_16 rfl rfl ?_
  refine w_get d_MO_chars_17 f_MO_93 xa rfl ?_
  refine w_if_eq (tgt := 64) d_MO_chars_20 rfl (fun z => absurd z (show ¬ nI 1 = 0 by decide)) (fun _ => ?_)
  refine w_aload_n d_MO_chars_23 rfl rfl ?_
  refine w_iload_n d_MO_chars_24 rfl ?_
  refine w_bipush (v := nI 45) d_MO_chars_25 (by decide) ?_
  refine w_callV (as := [.int (nI (pSp t k1)), .int (nI 45)]) (st := []) d_MO_chars_27 yM_MO_is l_MO_83 vM_MO_is xa rfl rfl rfl rfl (m_MO_is xa (htx.keep K1) ht31 (by omega) (by decide)) (by decide) (by decide) (by decide) (by decide) (Nat.le_of_ble_eq_true rfl) ?_
  rintro _ h9_2 ⟨rfl, e9_2⟩
  rw [e9_2]
  refine w_eq (st' := [.int (bI (decide (t[pSp t k1]? = some 45)))]) rfl ?_
  refine w_if_eq (tgt := 64) d_MO_chars_30 rfl (fun z => absurd z (by rw [decide_eq_true h45]; decide)) (fun _ => ?_)
  refine w_aload_n d_MO_chars_33 rfl rfl ?_
  refine w_iload_n d_MO_chars_34 rfl ?_
  refine w_iconst (v := nI 1) d_MO_chars_35 (by decide) ?_
  refine w_iadd d_MO_chars_36 ?_
  refine w_topi (y := nI (pSp t k1 + 1)) (nI_1 _) ?_
  refine w_callV (as := [.int (nI (pSp t k1 + 1))]) (st := []) d_MO_chars_37 yM_MO_pastSpaces l_MO_162 vM_MO_pastSpaces xa rfl rfl rfl rfl (m_MO_past xa (htx.keep K1) ht31 (by omega)) (by decide) (by decide) (by decide) (by decide) (Nat.le_of_ble_eq_true rfl) ?_
  rintro _ h9_3 ⟨rfl, e9_3⟩
  rw [e9_3]
  refine w_eq (st' := [.int (nI (pSp t (pSp t k1 + 1)))]) rfl ?_
  refine w_istore d_MO_chars_40 (by decide) ?_
  refine w_pl (pl' := [some (.ref 57), some (.int (nI a)), some (.int (nI a)), some (.int (nI (pSp t k1))), some (.int (nI (pSp t (pSp t k1 + 1))))]) rfl ?_
  refine w_aload_n d_MO_chars_42 rfl rfl ?_
  refine w_iload d_MO_chars_43 rfl ?_
  refine w_bipush (v := nI 93) d_MO_chars_45 (by decide) ?_
  refine w_callV (as := [.int (nI (pSp t (pSp t k1 + 1))), .int (nI 93)]) (st := []) d_MO_chars_47 yM_MO_is l_MO_83 vM_MO_is xa rfl rfl rfl rfl (m_MO_is xa (htx.keep K1) ht31 (by omega) (by decide)) (by decide) (by decide) (by decide) (by decide) (Nat.le_of_ble_eq_true rfl) ?_
  rintro _ h9_4 ⟨rfl, e9_4⟩
  rw [e9_4]
  refine w_eq (st' := [.int (bI (decide (t[pSp t (pSp t k1 + 1)]? = some 93)))]) rfl ?_
  refine w_if_ne (tgt := 64) d_MO_chars_50 rfl (fun z => absurd (by rw [decide_eq_false h93]; rfl) z) (fun _ => ?_)
  refine w_aload_n d_MO_chars_53 rfl rfl ?_
  refine w_iload d_MO_chars_54 rfl ?_
  refine w_put d_MO_chars_56 f_MO_86 rfl xa rfl rfl rfl ?_
  refine w_nm (fun h5 e5 => ?_)
  have xa_5 := wS_eq e5 xa
  refine w_aload_n d_MO_chars_59 rfl rfl ?_
  have K2 : ∀ q, q ≠ 57 → h5[q]? = h[q]? := fun q hq9 => by rw [wS_off e5 (by omega)]; exact K1 q hq9
  refine w_callV (as := []) (st := []) d_MO_chars_60 yM_MO_readChar l_MO_165 vM_MO_readChar xa_5 rfl rfl rfl rfl (m_MO_readChar (k := pSp t (pSp t k1 + 1)) xa_5 (htx.keep K2) ht31 (by omega)) (by decide) (by decide) (by decide) (by decide) (Nat.le_of_ble_eq_true rfl) ?_
  rintro _ g2 ⟨K3, vb, kb, rfl, xb, bb, cb⟩
  refine w_eq (st' := [.int (vb)]) rfl ?_
  refine w_topi (y := nI b) (cb _ _ hc2).1 ?_
  rw [(cb _ _ hc2).2] at xb
  rw [hc2] at xb
  have hkp : ∀ q, q ≠ 57 → (q < 59 ∨ 63 ≤ q) → g2[q]? = h[q]? := fun q h8 _ => (K3 q h8).trans (K2 q h8)
  refine w_istore_n d_MO_chars_63 (by decide) ?_
  refine w_pl (pl' := [some (.ref 57), some (.int (nI a)), some (.int (nI b)), some (.int (nI (pSp t k1))), some (.int (nI (pSp t (pSp t k1 + 1))))]) rfl ?_
  refine w_aload_n d_MO_chars_64 rfl rfl ?_
  refine w_aload_n d_MO_chars_65 rfl rfl ?_
  refine w_get d_MO_chars_66 f_MO_93 xb rfl ?_
  refine w_if_eq (tgt := 81) d_MO_chars_69 rfl (fun z => absurd z (show ¬ nI 1 = 0 by decide)) (fun _ => ?_)
  refine w_iload_n d_MO_chars_72 rfl ?_
  refine w_iload_n d_MO_chars_73 rfl ?_
  refine w_icmp_gt (tgt := 81) d_MO_chars_74 rfl (fun _ => ?_) (fun z => absurd (nI_lt (by omega) (by omega)) z)
  refine w_iconst (v := nI 0) d_MO_chars_81 (by decide) ?_
  refine w_put d_MO_chars_82 f_MO_93 rfl xb rfl rfl rfl ?_
  refine w_nm (fun h6 e6 => ?_)
  have xb_6 := wS_eq e6 xb
  refine w_aload_n d_MO_chars_85 rfl rfl ?_
  refine w_get d_MO_chars_86 f_MO_93 xb_6 rfl ?_
  refine w_if_eq (tgt := 102) d_MO_chars_89 rfl (fun _ => ?_) (fun z => absurd (by decide) z)
  refine w_aload_n d_MO_chars_102 rfl rfl ?_
  refine w_iconst (v := nI 1) d_MO_chars_103 (by decide) ?_
  have K4 : ∀ q, q ≠ 57 → (q < 59 ∨ 63 ≤ q) → h6[q]? = h[q]? := fun q h8 h9 => by rw [wS_off e6 (by omega)]; exact hkp q h8 h9
  have em4 : mE h6 EE SS := hE.keep (fun q hq9 => by rw [wS_off e6 (by omega)]; exact (K3 q hq9).trans (K2 q hq9))
  refine w_callV (as := [.int (nI 1)]) (st := []) d_MO_chars_104 yM_MO_ended l_MO_156 vM_MO_ended xb_6 rfl rfl rfl rfl (m_MO_ended (g := false) (w9 := nI 1) xb_6 em4 (by omega) ((K4 64 (by omega) (by omega)).trans h64)) (by decide) (by decide) (by decide) (by decide) (Nat.le_of_ble_eq_true rfl) ?_
  rintro _ g9 ⟨rfl, x9, ⟨fb9, a9, b9, c9⟩, k9⟩
  refine w_eq (st' := []) rfl ?_
  have KK : ∀ q, q < 57 ∨ q = 58 ∨ q = 63 ∨ 65 ≤ q → g9[q]? = h[q]? := fun q hq9 => (k9 q (by omega) (by omega)).trans (K4 q (by omega) (by omega))
  have em9 : mE g9 EE SS := em4.k2 (fun q _ _ => k9 q (by omega) (by omega))
  rw [← hEN]
  refine w_vret d_MO_chars_107 rfl ?_
  have hres : pChr t B (j + 1) p = none := by unfold pChr; rw [hc0]; dsimp only; rw [if_pos ⟨h45, h93⟩, hc2]; dsimp only; rw [if_neg hab]
  rw [hres]
  exact pQ_no (hQ.x x9 (htx.k2 (KK 58 (by omega))) em9 ((KK 63 (by omega)).trans h63) a9 ((KK 65 (by omega)).trans h65) (ex_k h66 (KK 66 (by omega))) (ex_k h67 (KK 67 (by omega)))) (fun q hq9 => KK q (by omega)) (fun _ _ => ⟨rfl, rfl⟩)
theorem m_MO_chars {h : wH} {t : List Nat} {EE SS : Nat → List Nat} {ft fb fs : Nat → Int32} {p : Nat} {B : Nat → Br} {j : Nat} (hq : hQ h t EE SS ft fb fs p true (j + 1)) (hR : Rl B (j + 1) EE SS ft fb fs) (hi : pInv t B (j + 1) p) (ht31 : ∀ x ∈ t, x < 1114112) (hw : (B j).2.2.2.2 = 0) : PM X M_MO_chars 4 0 0 [.ref 57] h (pQ (pChr t B (j + 1) p) h t EE SS) := by
  cases hc0 : rc t p with
  | none => exact m_MO_ch0 hq hR hi ht31 hw hc0
  | some q =>
    obtain ⟨a, k1⟩ := q
    by_cases h45 : t[pSp t k1]? = some 45
    · by_cases h93 : t[pSp t (pSp t k1 + 1)]? = some 93
      · exact m_MO_ch2 hq hR hi ht31 hw hc0 h45 h93
      · cases hc2 : rc t (pSp t (pSp t k1 + 1)) with
        | none => exact m_MO_ch3 hq hR hi ht31 hw hc0 h45 h93 hc2
        | some q2 =>
          obtain ⟨b, k2⟩ := q2
          by_cases hab : a ≤ b
          · exact m_MO_ch4 hq hR hi ht31 hw hc0 h45 h93 hc2 hab
          · exact m_MO_ch5 hq hR hi ht31 hw hc0 h45 h93 hc2 hab
    · exact m_MO_ch1 hq hR hi ht31 hw hc0 h45
set_option maxHeartbeats 4000000 in
set_option maxRecDepth 100000 in
theorem m_MO_signOrDash {h : wH} {t : List Nat} {EE SS : Nat → List Nat} {ft fb fs : Nat → Int32} {p : Nat} {B : Nat → Br} {j : Nat} (hq : hQ h t EE SS ft fb fs p true (j + 1)) (hR : Rl B (j + 1) EE SS ft fb fs) (hi : pInv t B (j + 1) p) (ht31 : ∀ x ∈ t, x < 1114112) (hsg : t[p]? = some 45 → (B j).2.2.2.2 = 0) (hpl : p < t.length) : PM X M_MO_signOrDash 4 0 0 [.ref 57] h (pQ (pSgn t B (j + 1) p) h t EE SS) := by
  obtain ⟨⟨wr, fi, hx⟩, htx, hE, h63, h64, h65, h66, h67⟩ := hq
  obtain ⟨tf, tp, t60, thf⟩ := id htx
  have hd5 := hi.1
  have hr := hR j (by omega)
  have hI := hi.at t60 (j := j) (by omega)
  have hk60 := hi.2.2.2.1
  have hbc := (hi.2.1 j (by omega)).2.2
  have hbl := bfN_le (B j)
  have hs1 := pSp_b t (p + 1)
  refine PM.at (pl := [some (.ref 57), none, none]) rfl rfl (by simp [wle, wen]) ?_
  generalize hEN : wEm X 0 0 _ = EN
  refine w_aload_n d_MO_signOrDash_0 rfl rfl ?_
  refine w_aload_n d_MO_signOrDash_1 rfl rfl ?_
  refine w_get d_MO_signOrDash_2 f_MO_86 hx rfl ?_
  refine w_bipush (v := nI 45) d_MO_signOrDash_5 (by decide) ?_
  refine w_callV (as := [.int (nI p), .int (nI 45)]) (st := []) d_MO_signOrDash_7 yM_MO_is l_MO_83 vM_MO_is hx rfl rfl rfl rfl (m_MO_is hx htx ht31 (by omega) (by decide)) (by decide) (by decide) (by decide) (by decide) (Nat.le_of_ble_eq_true rfl) ?_
  rintro _ h9_1 ⟨rfl, e9_1⟩
  rw [e9_1]
  refine w_eq (st' := [.int (bI (decide (t[p]? = some 45)))]) rfl ?_
  refine w_istore_n d_MO_signOrDash_10 (by decide) ?_
  refine w_pl (pl' := [some (.ref 57), some (.int (bI (decide (t[p]? = some 45)))), none]) rfl ?_
  refine w_aload_n d_MO_signOrDash_11 rfl rfl ?_
  refine w_aload_n d_MO_signOrDash_12 rfl rfl ?_
  refine w_get d_MO_signOrDash_13 f_MO_86 hx rfl ?_
  refine w_iconst (v := nI 1) d_MO_signOrDash_16 (by decide) ?_
  refine w_iadd d_MO_signOrDash_17 ?_
  refine w_topi (y := nI (p + 1)) (nI_1 _) ?_
  refine w_callV (as := [.int (nI (p + 1))]) (st := []) d_MO_signOrDash_18 yM_MO_pastSpaces l_MO_162 vM_MO_pastSpaces hx rfl rfl rfl rfl (m_MO_past hx htx ht31 (by omega)) (by decide) (by decide) (by decide) (by decide) (Nat.le_of_ble_eq_true rfl) ?_
  rintro _ h9_2 ⟨rfl, e9_2⟩
  rw [e9_2]
  refine w_eq (st' := [.int (nI (pSp t (p + 1)))]) rfl ?_
  refine w_istore_n d_MO_signOrDash_21 (by decide) ?_
  refine w_pl (pl' := [some (.ref 57), some (.int (bI (decide (t[p]? = some 45)))), some (.int (nI (pSp t (p + 1))))]) rfl ?_
  refine w_iload_n d_MO_signOrDash_22 rfl ?_
  suffices J78 : ¬ (t[p]? = some 45 ∧ ((B j).2.2.1 = 0 ∨ t[pSp t (p + 1)]? = some 93)) → WP X M_MO_signOrDash (wR 4 0 0) 0 EN 0 0 78 [some (.ref 57), some (.int (bI (decide (t[p]? = some 45)))), some (.int (nI (pSp t (p + 1))))] [] h by
    suffices J48 : (t[p]? = some 45 ∧ ((B j).2.2.1 = 0 ∨ t[pSp t (p + 1)]? = some 93)) → WP X M_MO_signOrDash (wR 4 0 0) 0 EN 0 0 48 [some (.ref 57), some (.int (bI (decide (t[p]? = some 45)))), some (.int (nI (pSp t (p + 1))))] [] h by
      refine w_if_eq (tgt := 78) d_MO_signOrDash_23 rfl (fun c23 => ?_) (fun c23 => ?_)
      · have c23 := of_decide_eq_false (bI_f c23)
        exact J78 (fun z => c23 z.1)
      · have c23 := of_decide_eq_true (bI_t c23)
        refine w_aload_n d_MO_signOrDash_26 rfl rfl ?_
        refine w_get d_MO_signOrDash_27 f_MO_30 hx rfl ?_
        refine w_aload_n d_MO_signOrDash_30 rfl rfl ?_
        refine w_get d_MO_signOrDash_31 f_MO_149 hx rfl ?_
        refine w_iald d_MO_signOrDash_34 h64 (vp_in_nI (by omega) (by decide)) ?_
        refine w_topi (y := nI (bfN (B j))) (by rw [nI_clamp (by omega)]; exact hr.2.2.2.1) ?_
        refine w_if_eq (tgt := 48) d_MO_signOrDash_35 rfl (fun c35 => ?_) (fun c35 => ?_)
        · have c35 := (bfN_0 _).mp ((nI_eq (a := bfN (B j)) (b := 0) (by omega) (by decide)).mp c35)
          exact J48 ⟨c23, Or.inl c35⟩
        · have c35 : ¬ (B j).2.2.1 = 0 := fun z => c35 (by rw [(bfN_0 _).mpr z]; rfl)
          refine w_aload_n d_MO_signOrDash_38 rfl rfl ?_
          refine w_iload_n d_MO_signOrDash_39 rfl ?_
          refine w_bipush (v := nI 93) d_MO_signOrDash_40 (by decide) ?_
          refine w_callV (as := [.int (nI (pSp t (p + 1))), .int (nI 93)]) (st := []) d_MO_signOrDash_42 yM_MO_is l_MO_83 vM_MO_is hx rfl rfl rfl rfl (m_MO_is hx htx ht31 (by omega) (by decide)) (by decide) (by decide) (by decide) (by decide) (Nat.le_of_ble_eq_true rfl) ?_
          rintro _ h9_3 ⟨rfl, e9_3⟩
          rw [e9_3]
          refine w_eq (st' := [.int (bI (decide (t[pSp t (p + 1)]? = some 93)))]) rfl ?_
          refine w_if_eq (tgt := 78) d_MO_signOrDash_45 rfl (fun c45 => ?_) (fun c45 => ?_)
          · have c45 := of_decide_eq_false (bI_f c45)
            exact J78 (fun z => by rcases z.2 with z9 | z9; exact c35 z9; exact c45 z9)
          · have c45 := of_decide_eq_true (bI_t c45)
            exact J48 ⟨c23, Or.inr c45⟩
    intro hyes
    refine w_aload_n d_MO_signOrDash_48 rfl rfl ?_
    refine w_aload_n d_MO_signOrDash_49 rfl rfl ?_
    refine w_callV (as := []) (st := [.ref 57]) d_MO_signOrDash_50 yM_MO_level l_MO_152 vM_MO_level hx rfl rfl rfl rfl (m_MO_level hx) (by decide) (by decide) (by decide) (by decide) (Nat.le_of_ble_eq_true rfl) ?_
    rintro _ h9_4 ⟨rfl, e9_4⟩
    rw [e9_4]
    refine w_eq (st' := [.int (nI (3 + j)), .ref 57]) rfl ?_
    refine w_bipush (v := nI 45) d_MO_signOrDash_53 (by decide) ?_
    refine w_bipush (v := nI 45) d_MO_signOrDash_55 (by decide) ?_
    refine w_callV (as := [.int (nI (3 + j)), .int (nI 45), .int (nI 45)]) (st := []) d_MO_signOrDash_57 yM_MO_addRange l_MO_123 vM_MO_addRange hx rfl rfl rfl rfl (m_MO_addRange (t := 3 + j) (a := 45) (c := 45) hx hE (by omega) (by omega) (by omega) (by omega) (by omega) (by rw [hr.1]; exact hI.1) (by rw [hr.1]; have := hI.2.1; omega) (sR_sOk hr.2.1 hI.2.2.1)) (by decide) (by decide) (by decide) (by decide) (Nat.le_of_ble_eq_true rfl) ?_
    rintro _ g5 ⟨rfl, o5, F5, T5, em5, q5, r5, k5⟩
    refine w_eq (st' := []) rfl ?_
    have x5 := (o5 57 (by omega)).trans hx
    have K5 : ∀ q, q ≠ 57 → (q < 59 ∨ 63 ≤ q) → g5[q]? = h[q]? := fun q h8 h9 => o5 q (by omega)
    refine w_aload_n d_MO_signOrDash_60 rfl rfl ?_
    refine w_aload_n d_MO_signOrDash_61 rfl rfl ?_
    refine w_get d_MO_signOrDash_62 f_MO_86 x5 rfl ?_
    refine w_iconst (v := nI 1) d_MO_signOrDash_65 (by decide) ?_
    refine w_iadd d_MO_signOrDash_66 ?_
    refine w_topi (y := nI (p + 1)) (nI_1 _) ?_
    refine w_put d_MO_signOrDash_67 f_MO_86 rfl x5 rfl rfl rfl ?_
    refine w_nm (fun h5 e5 => ?_)
    have x5_5 := wS_eq e5 x5
    refine w_aload_n d_MO_signOrDash_70 rfl rfl ?_
    refine w_iconst (v := nI 1) d_MO_signOrDash_71 (by decide) ?_
    have K6 : ∀ q, q ≠ 57 → (q < 59 ∨ 63 ≤ q) → h5[q]? = h[q]? := fun q h8 h9 => by rw [wS_off e5 (by omega)]; exact K5 q h8 h9
    have em6 : mE h5 F5 T5 := em5.keep (fun q hq9 => by rw [wS_off e5 (by omega)])
    refine w_callV (as := [.int (nI 1)]) (st := []) d_MO_signOrDash_72 yM_MO_ended l_MO_156 vM_MO_ended x5_5 rfl rfl rfl rfl (m_MO_ended (g := true) (w9 := nI 1) x5_5 em6 (by omega) ((K6 64 (by omega) (by omega)).trans h64)) (by decide) (by decide) (by decide) (by decide) (Nat.le_of_ble_eq_true rfl) ?_
    rintro _ g9 ⟨rfl, x9, ⟨fb9, a9, b9, c9⟩, k9⟩
    refine w_eq (st' := []) rfl ?_
    have KK : ∀ q, q < 57 ∨ q = 58 ∨ q = 63 ∨ 65 ≤ q → g9[q]? = h[q]? := fun q hq9 => (k9 q (by omega) (by omega)).trans (K6 q (by omega) (by omega))
    have em9 : mE g9 F5 T5 := em6.k2 (fun q _ _ => k9 q (by omega) (by omega))
    refine w_goto (tgt := 130) d_MO_signOrDash_75 rfl ?_
    rw [← hEN]
    refine w_vret d_MO_signOrDash_130 rfl ?_
    have hres : pSgn t B (j + 1) p = rJoin B (j + 1) (p + 1) (rRan 45 45) false := by unfold pSgn; dsimp only; rw [if_pos hyes]
    rw [hres]
    have hw : (B j).2.2.2.2 = 0 := hsg hyes.1
    refine pQ_put (h9 := h) (EE' := F5) (SS' := T5) hR hw x9 (htx.k2 (KK 58 (by omega))) em9 ((KK 63 (by omega)).trans h63) a9 ((KK 65 (by omega)).trans h65) (ex_k h66 (KK 66 (by omega))) (ex_k h67 (KK 67 (by omega))) (by rw [q5, hr.1]; rfl) (by show sR (sCmb 0 (B j).1.2 []) _; rw [sCmb_nil hr.2.1.1, r5]; exact hr.2.1) k5 b9 c9 (fun q hq9 => KK q (by omega)) (by omega)
  intro hno
  refine w_aload_n d_MO_signOrDash_78 rfl rfl ?_
  refine w_get d_MO_signOrDash_79 f_MO_30 hx rfl ?_
  refine w_aload_n d_MO_signOrDash_82 rfl rfl ?_
  refine w_get d_MO_signOrDash_83 f_MO_149 hx rfl ?_
  refine w_iald d_MO_signOrDash_86 h64 (vp_in_nI (by omega) (by decide)) ?_
  refine w_topi (y := nI (bfN (B j))) (by rw [nI_clamp (by omega)]; exact hr.2.2.2.1) ?_
  refine w_iconst (v := nI 2) d_MO_signOrDash_87 (by decide) ?_
  suffices J125 : ¬ ((B j).2.2.2.1 = true ∧ (t[pSp t (p + 1)]? = some 91 ∨ pA t (pSp t (p + 1)))) → WP X M_MO_signOrDash (wR 4 0 0) 0 EN 0 0 125 [some (.ref 57), some (.int (bI (decide (t[p]? = some 45)))), some (.int (nI (pSp t (p + 1))))] [] h by
    refine w_icmp_ne (tgt := 125) d_MO_signOrDash_88 rfl (fun c88 => ?_) (fun c88 => ?_)
    · have c88 : ¬ (B j).2.2.2.1 = true := fun z => c88 (by rw [(bfN_2 hbc).mpr z])
      exact J125 (fun z => c88 z.1)
    · have c88 := (bfN_2 hbc).mp ((nI_eq (a := bfN (B j)) (b := 2) (by omega) (by decide)).mp c88)
      refine w_aload_n d_MO_signOrDash_91 rfl rfl ?_
      refine w_iload_n d_MO_signOrDash_92 rfl ?_
      refine w_callV (as := [.int (nI (pSp t (p + 1)))]) (st := []) d_MO_signOrDash_93 yM_MO_setAt l_MO_172 vM_MO_setAt hx rfl rfl rfl rfl (m_MO_setAt hx htx ht31 (by omega)) (by decide) (by decide) (by decide) (by decide) (Nat.le_of_ble_eq_true rfl) ?_
      rintro _ h9_6 ⟨rfl, e9_6⟩
      rw [e9_6]
      refine w_eq (st' := [.int (bI (decide (t[pSp t (p + 1)]? = some 91 ∨ pA t (pSp t (p + 1)))))]) rfl ?_
      refine w_if_eq (tgt := 125) d_MO_signOrDash_96 rfl (fun c96 => ?_) (fun c96 => ?_)
      · have c96 := of_decide_eq_false (bI_f c96)
        exact J125 (fun z => c96 z.2)
      · have c96 := of_decide_eq_true (bI_t c96)
        refine w_aload_n d_MO_signOrDash_99 rfl rfl ?_
        refine w_get d_MO_signOrDash_100 f_MO_33 hx rfl ?_
        refine w_aload_n d_MO_signOrDash_103 rfl rfl ?_
        refine w_get d_MO_signOrDash_104 f_MO_149 hx rfl ?_
        refine w_iload_n d_MO_signOrDash_107 rfl ?_
        suffices J116 : WP X M_MO_signOrDash (wR 4 0 0) 0 EN 0 0 116 [some (.ref 57), some (.int (bI (decide (t[p]? = some 45)))), some (.int (nI (pSp t (p + 1))))] [.int (nI (if t[p]? = some 45 then 2 else 1)), .int (nI (j + 1)), .ref 65] h by
          refine w_if_eq (tgt := 115) d_MO_signOrDash_108 rfl (fun c108 => ?_) (fun c108 => ?_)
          · have c108 := of_decide_eq_false (bI_f c108)
            refine w_iconst (v := nI 1) d_MO_signOrDash_115 (by decide) ?_
            exact w_topi (by rw [if_neg c108]) J116
          · have c108 := of_decide_eq_true (bI_t c108)
            refine w_iconst (v := nI 2) d_MO_signOrDash_111 (by decide) ?_
            refine w_goto (tgt := 116) d_MO_signOrDash_112 rfl ?_
            exact w_topi (by rw [if_pos c108]) J116
        refine w_iast d_MO_signOrDash_116 h65 (vp_in_nI (by omega) (by decide)) ?_
        refine w_nm (fun h7 e7 => ?_)
        have hx_7 := wS_ne e7 (by omega) hx
        have h63_7 := wS_ne e7 (by omega) h63
        have h64_7 := wS_ne e7 (by omega) h64
        have h65_7 := wS_eq e7 h65
        refine w_aload_n d_MO_signOrDash_117 rfl rfl ?_
        refine w_iload_n d_MO_signOrDash_118 rfl ?_
        refine w_put d_MO_signOrDash_119 f_MO_86 rfl hx_7 rfl rfl rfl ?_
        refine w_nm (fun h8 e8 => ?_)
        have hx_8 := wS_eq e8 hx_7
        have h63_8 := wS_ne e8 (by omega) h63_7
        have h64_8 := wS_ne e8 (by omega) h64_7
        have h65_8 := wS_ne e8 (by omega) h65_7
        refine w_goto (tgt := 130) d_MO_signOrDash_122 rfl ?_
        rw [← hEN]
        refine w_vret d_MO_signOrDash_130 rfl ?_
        have K : ∀ i, i ≠ 57 → i ≠ 65 → h8[i]? = h[i]? := fun i h8 h9 => by rw [wS_off e8 (by omega), wS_off e7 (by omega)]
        have x9 : h8[57]? = some (.inr (7, [.ref 58, .int (nI t.length), .ref 59, .ref 60, .ref 61, .ref 62, .int (nI (pSp t (p + 1))), .int (bI true), .int (nI (j + 1)), .ref 63, .ref 64, .ref 65, .ref 66, .int (wr), .int (fi), .ref 67])) := hx_8
        have hres : pSgn t B (j + 1) p = some (bUp B j ((B j).1, (B j).2.1, (B j).2.2.1, (B j).2.2.2.1, if t[p]? = some 45 then 2 else 1), j + 1, pSp t (p + 1), ([], [])) := by unfold pSgn; dsimp only; rw [if_neg hno, if_pos ⟨c88, c96⟩]
        rw [hres]
        refine ⟨rfl, fun i hi => K i (by omega) (by omega), EE, SS, _, _, _, _, _, hQ.x x9 (htx.k2 (K 58 (by omega) (by omega))) (hE.k2 (fun q _ _ => K q (by omega) (by omega))) h63_8 h64_8 h65_8 (ex_k h66 (K 66 (by omega) (by omega))) (ex_k h67 (K 67 (by omega) (by omega))), fun _ _ => ⟨rfl, rfl⟩, fun B9 d9 k9 V9 hz => ?_⟩
        cases hz
        refine ⟨rfl, rfl, fun k hk => ?_, fun z9 => by omega⟩
        rw [nI_clamp (by omega)]
        have hrk := hR k hk
        by_cases hkj : k = j
        · subst hkj
          rw [bUp_at, upd_eq]
          exact ⟨hrk.1, hrk.2.1, hrk.2.2.1, hrk.2.2.2.1, rfl⟩
        · rw [bUp_ne _ _ hkj, upd_ne (by omega)]
          exact hrk
  intro hns
  refine w_aload_n d_MO_signOrDash_125 rfl rfl ?_
  refine w_iconst (v := nI 0) d_MO_signOrDash_126 (by decide) ?_
  refine w_put d_MO_signOrDash_127 f_MO_93 rfl hx rfl rfl rfl ?_
  refine w_nm (fun h9 e9 => ?_)
  have hx_9 := wS_eq e9 hx
  have h63_9 := wS_ne e9 (by omega) h63
  have h64_9 := wS_ne e9 (by omega) h64
  have h65_9 := wS_ne e9 (by omega) h65
  rw [← hEN]
  refine w_vret d_MO_signOrDash_130 rfl ?_
  have K : ∀ i, i ≠ 57 → h9[i]? = h[i]? := fun i hi => by rw [wS_off e9 (by omega)]
  have x9 : h9[57]? = some (.inr (7, [.ref 58, .int (nI t.length), .ref 59, .ref 60, .ref 61, .ref 62, .int (nI p), .int (bI false), .int (nI (j + 1)), .ref 63, .ref 64, .ref 65, .ref 66, .int (wr), .int (fi), .ref 67])) := hx_9
  have hres : pSgn t B (j + 1) p = none := by unfold pSgn; dsimp only; rw [if_neg hno, if_neg hns]
  rw [hres]
  exact pQ_no (hQ.x x9 (htx.keep K) (hE.keep K) ((K 63 (by omega)).trans h63) ((K 64 (by omega)).trans h64) ((K 65 (by omega)).trans h65) (ex_k h66 (K 66 (by omega))) (ex_k h67 (K 67 (by omega)))) (fun j hj => K j (by omega)) (fun _ _ => ⟨rfl, rfl⟩)
end MO15
