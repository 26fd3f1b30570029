/-! the reference's item: written by wip/gen/mo17.py -/
def pKind (t : List Nat) (B : Nat → Br) (d p : Nat) (q : Nat × Int32) (w : Nat) : Option rS := if d = 0 ∧ ¬ (q.1 = 4 ∨ q.1 = 5 ∨ q.1 = 2 ∨ q.1 = 3) then none else if q.1 = 1 then pChr t B d p else if q.1 = 2 ∨ q.1 = 3 then rJoin B d (p + w) (pTab q, []) true else if q.1 = 4 ∨ q.1 = 5 then pOpen t B d p else if q.1 = 6 then rEnd B d p else if q.1 = 7 then pStr t B d p else if q.1 = 9 ∨ q.1 = 10 then pSgn t B d p else none
/-- an item from k on -/
def pItem (t : List Nat) (B : Nat → Br) (d k : Nat) : Option rS := match pX t (pSp t k) with
  | some (some q, w) => pKind t B d (pSp t k) q w
  | _ => none
theorem pItem_k {t : List Nat} {B : Nat → Br} {d k w : Nat} {q : Nat × Int32} (h : pX t (pSp t k) = some (some q, w)) : pItem t B d k = pKind t B d (pSp t k) q w := by unfold pItem; rw [h]
theorem pX_at {t : List Nat} {p c : Nat} (h : t[p]? = some c) : pX t p = lxAt t p c := by unfold pX; rw [h]
theorem pS_ns (t : List Nat) : ∀ (f k : Nat), t.length - k ≤ f → ¬ t[pS t f k]? = some 32
  | 0, k, h => fun z => by have := lx_lt z; have e : pS t 0 k = k := rfl; omega
  | f + 1, k, h => by
    unfold pS
    split
    · exact pS_ns t f (k + 1) (by omega)
    · assumption
theorem pSp_ns (t : List Nat) (k : Nat) : ¬ t[pSp t k]? = some 32 := pS_ns t _ k (Nat.le_refl _)
theorem pInv.sp {t : List Nat} {B : Nat → Br} {d k : Nat} (h : pInv t B d k) : pInv t B d (pSp t k) := by
  obtain ⟨h1, h2, h3, h4, h5⟩ := h
  have hb := pSp_b t k
  refine ⟨h1, h2, by omega, hb.2 h4, fun j hj hw => ?_⟩
  have h6 := h5 j hj hw
  have h7 : ¬ t[k]? = some 32 := by
    rcases h6 with z | z | z
    · rw [z]; decide
    · rw [z.1]; decide
    · rw [z.1]; decide
  rw [pSp_no h7]
  exact h6
theorem pInv.how {t : List Nat} {B : Nat → Br} {j k : Nat} (h : pInv t B (j + 1) k) (h1 : ¬ t[k]? = some 91) (h2 : ¬ pA t k) : (B j).2.2.2.2 = 0 := by
  refine Decidable.byContradiction fun z => ?_
  rcases h.2.2.2.2 j rfl z with y | y
  · exact h1 y
  · exact h2 y
theorem pQ.tr {x : Option rS} {h h1 h2 : wH} {t : List Nat} {EE SS : Nat → List Nat} {z : Option Value} (a : wOff h h1 57 11) (b : pQ x h1 t EE SS z h2) : pQ x h t EE SS z h2 := ⟨b.1, a.tr b.2.1, b.2.2⟩
theorem pX_prop {t : List Nat} {p w : Nat} {q : Nat × Int32} (ha : pA t p) (h : pX t p = some (some q, w)) : q.1 = 2 ∨ q.1 = 3 := by
  rcases ha with ⟨z1, z2⟩ | ⟨z1, z2⟩
  · rw [pX_at z1] at h
    have h : lxOpen t p = some (some q, w) := h
    unfold lxOpen at h
    rw [if_neg (by rw [z2]; decide), if_pos z2] at h
    exact lxOpen2_k h
  · rw [pX_at z1, lxAt_92, if_pos z2] at h
    unfold lxName lxName2 at h
    split at h
    · exact lxProp_k h
    · cases h
theorem pTab_ok {q : Nat × Int32} (h : tokOk q) (hk : q.1 = 2 ∨ q.1 = 3) : eOk (pTab q) ∧ (pTab q).length ≤ wt q ∧ wt q ≤ 20 := by
  obtain ⟨n, hn, h2⟩ := h.2.2.2 hk
  have h3 := iOk_tab hn
  obtain ⟨qk, qv⟩ := q
  have h2 : qv = nI n := h2
  subst h2
  rcases hk with z | z
  · have z : qk = 2 := z
    subst z
    have hw : wt (2, nI n) = (rTab (nI n)).length := rfl
    rw [pTab_f, hw]
    exact ⟨h3.1.1, Nat.le_refl _, by omega⟩
  · have z : qk = 3 := z
    subst z
    have hw : wt (3, nI n) = (rTab (nI n)).length + 2 := rfl
    rw [pTab_t, hw]
    have := eCmb_len 3 (rTab (nI n)) [0, 1114112]
    have e2 : [0, 1114112].length = 2 := rfl
    exact ⟨eCmb_ok _ _ _, by omega, by omega⟩
theorem lxProp_s {o : Bool} {l : List Nat} {w0 w : Nat} {x : Option (Nat × Int32)} (h : lxProp o l w0 = some (x, w)) : ∃ q, x = some q := by
  unfold lxProp at h
  split at h
  · cases h
  · cases h; exact ⟨_, rfl⟩
theorem lxOpen2_s {t : List Nat} {k w : Nat} {o : Bool} {q0 : Nat × List Nat} {x : Option (Nat × Int32)} (h : lxOpen2 t k o q0 = some (x, w)) : ∃ q, x = some q := by
  unfold lxOpen2 at h
  split at h
  · exact lxProp_s h
  · cases h
theorem lxName2_s {t : List Nat} {k w : Nat} {q0 : Nat × List Nat} {x : Option (Nat × Int32)} (h : lxName2 t k q0 = some (x, w)) : ∃ q, x = some q := by
  unfold lxName2 at h
  split at h
  · exact lxProp_s h
  · cases h
theorem pX_ok {t : List Nat} (ht : ∀ x ∈ t, x < 1114112) {p w : Nat} {q : Nat × Int32} (h : pX t p = some (some q, w)) : tokOk q ∧ wt q ≤ 2 * w ∧ p + w ≤ t.length ∧ 1 ≤ w := by
  unfold pX at h
  cases hc : t[p]? with
  | none => rw [hc] at h; cases h
  | some c =>
    rw [hc] at h
    have h1 := lxAt_ok ht hc h
    exact ⟨(h1.2 q rfl).1, (h1.2 q rfl).2, h1.1, lxAt_w (lx_lt hc) h⟩
theorem pX_rc {t : List Nat} {p : Nat} (h : ∀ v w, pX t p = some (some (1, v), w) → False) : rc t p = none := by
  unfold pX at h
  unfold rc
  cases hc : t[p]? with
  | none => rfl
  | some c =>
    rw [hc] at h
    dsimp only
    split
    · rename_i v w hl
      exact absurd (h v w hl) id
    · rfl
theorem lxEsc_k {t : List Nat} {p w : Nat} {q : Nat × Int32} (h : lxEsc t p = some (some q, w)) : q.1 = 1 := by
  unfold lxEsc at h
  cases hc : t[p + 1]? with
  | none => rw [hc] at h; cases h
  | some c =>
    rw [hc] at h
    dsimp only at h
    split at h
    · cases h; rfl
    split at h
    · cases h; rfl
    split at h
    · unfold lxFour at h
      split at h
      · cases h; rfl
      · cases h
    split at h
    · unfold lxBr lxBr2 at h
      split at h
      · split at h
        · cases h; rfl
        · cases h
      · cases h
    split at h
    · cases h
    · cases h; rfl
/-- what is no sign is a code point -/
theorem pItem_chr {t : List Nat} {B : Nat → Br} {j k : Nat} (h1 : ¬ t[pSp t k]? = some 93) (h2 : ¬ pA t (pSp t k)) (h3 : ¬ t[pSp t k]? = some 91) (h4 : ¬ t[pSp t k]? = some 123) (h5 : ¬ t[pSp t k]? = some 45) (h6 : ¬ t[pSp t k]? = some 38) : pItem t B (j + 1) k = pChr t B (j + 1) (pSp t k) := by
  by_cases hex : ∃ v w, pX t (pSp t k) = some (some (1, v), w)
  · obtain ⟨v, w, hx⟩ := hex
    rw [pItem_k hx]
    unfold pKind
    rw [if_neg (by omega), if_pos rfl]
  · have hrc := pX_rc (t := t) (p := pSp t k) (fun v w z => hex ⟨v, w, z⟩)
    have hch : pChr t B (j + 1) (pSp t k) = none := by unfold pChr; rw [hrc]
    rw [hch]
    unfold pItem
    split
    · rename_i q w hx
      have hns := pSp_ns t k
      generalize pSp t k = p at *
      cases hc : t[p]? with
      | none => unfold pX at hx; rw [hc] at hx; cases hx
      | some c =>
        rw [hc] at h1 h3 h4 h5 h6 hns
        have hx2 := hx
        rw [pX_at hc] at hx2
        have hq1 : q.1 ≠ 1 := fun z => hex ⟨q.2, w, by rw [hx, ← z]⟩
        by_cases h92 : c = 92
        · subst h92
          rw [lxAt_92, if_neg (fun z => h2 (Or.inr ⟨hc, z⟩))] at hx2
          exact absurd (lxEsc_k hx2) hq1
        · unfold lxAt at hx2
          rw [if_neg (fun z => hns (by rw [z])), if_neg (fun z => h6 (by rw [z])), if_neg (fun z => h5 (by rw [z])), if_neg (fun z => h3 (by rw [z])), if_neg h92, if_neg (fun z => h1 (by rw [z]))] at hx2
          split at hx2
          · cases hx2
          rw [if_neg (fun z => h4 (by rw [z]))] at hx2
          split at hx2
          · cases hx2
            unfold pKind
            rfl
          · cases hx2
            exact absurd rfl hq1
    · rfl
theorem pX_some {t : List Nat} {p : Nat} {y : Option (Nat × Int32) × Nat} (ha : pA t p) (h : pX t p = some y) : ∃ q w, y = (some q, w) := by
  obtain ⟨o, w⟩ := y
  cases o with
  | some q => exact ⟨q, w, rfl⟩
  | none =>
    exfalso
    rcases ha with ⟨z1, z2⟩ | ⟨z1, z2⟩
    · rw [pX_at z1] at h
      have h : lxOpen t p = some (none, w) := h
      unfold lxOpen at h
      rw [if_neg (by rw [z2]; decide), if_pos z2] at h
      obtain ⟨q, hq⟩ := lxOpen2_s h
      cases hq
    · rw [pX_at z1, lxAt_92, if_pos z2] at h
      obtain ⟨q, hq⟩ := lxName2_s h
      cases hq
section MO17
variable {X : wX}
set_option maxHeartbeats 4000000 in
set_option maxRecDepth 100000 in
theorem m_MO_item {h : wH} {t : List Nat} {EE SS : Nat → List Nat} {ft fb fs : Nat → Int32} {k : Nat} {B : Nat → Br} {j : Nat} (hq : hQ h t EE SS ft fb fs k true (j + 1)) (hR : Rl B (j + 1) EE SS ft fb fs) (hi : pInv t B (j + 1) k) (ht31 : ∀ x ∈ t, x < 1114112) (h11 : EE 11 = [0, 1114112]) (s11 : SS 11 = []) : PM X M_MO_item 7 0 0 [.ref 57] h (pQ (pItem t B (j + 1) k) h t EE SS) := by
  obtain ⟨⟨wr, fi, hx⟩, htx, hE, h63, h64, h65, h66, h67⟩ := id hq
  obtain ⟨tf, tp, t60, thf⟩ := id htx
  have hd5 := hi.1
  have hk60 := hi.2.2.2.1
  have hb := pSp_b t k
  have hip := hi.sp
  have hpk : pItem t B (j + 1) k = match pX t (pSp t k) with | some (some q, w) => pKind t B (j + 1) (pSp t k) q w | _ => none := rfl
  have hchr := pItem_chr (t := t) (B := B) (j := j) (k := k)
  have hns := pSp_ns t k
  obtain ⟨p, hp⟩ : ∃ p, p = pSp t k := ⟨_, rfl⟩
  rw [← hp] at hb hip hpk hchr hns
  have hr := hR j (by omega)
  have hI := hip.at t60 (j := j) (by omega)
  refine PM.at (pl := [some (.ref 57)]) rfl rfl (by simp [wle, wen]) ?_
  generalize hEN : wEm X 0 0 _ = EN
  refine w_aload_n d_MO_item_0 rfl rfl ?_
  refine w_aload_n d_MO_item_1 rfl rfl ?_
  refine w_aload_n d_MO_item_2 rfl rfl ?_
  refine w_get d_MO_item_3 f_MO_86 hx rfl ?_
  refine w_callV (as := [.int (nI k)]) (st := [.ref 57]) d_MO_item_6 yM_MO_pastSpaces l_MO_162 vM_MO_pastSpaces hx rfl rfl rfl rfl (m_MO_past hx htx ht31 (by omega)) (by decide) (by decide) (by decide) (by decide) (Nat.le_of_ble_eq_true rfl) ?_
  rintro _ h9_1 ⟨rfl, e9_1⟩
  rw [e9_1]
  refine w_eq (st' := [.int (nI (pSp t k)), .ref 57]) rfl ?_
  refine w_topi (y := nI p) (by rw [hp]) ?_
  refine w_put d_MO_item_9 f_MO_86 rfl hx rfl rfl rfl ?_
  refine w_nm (fun h2 e2 => ?_)
  have hx_2 := wS_eq e2 hx
  have K1 : ∀ q, q ≠ 57 → h2[q]? = h[q]? := fun q hq9 => by rw [wS_off e2 (by omega)]
  have o1 : wOff h h2 57 11 := fun q hq9 => K1 q (by omega)
  have tx1 : mT h2 t := htx.keep K1
  have hQ1 : hQ h2 t EE SS ft fb fs p true (j + 1) := hQ.x hx_2 tx1 (hE.keep K1) ((K1 63 (by omega)).trans h63) ((K1 64 (by omega)).trans h64) ((K1 65 (by omega)).trans h65) (ex_k h66 (K1 66 (by omega))) (ex_k h67 (K1 67 (by omega)))
  refine w_aload_n d_MO_item_12 rfl rfl ?_
  refine w_aload_n d_MO_item_13 rfl rfl ?_
  refine w_get d_MO_item_14 f_MO_86 hx_2 rfl ?_
  refine w_bipush (v := nI 93) d_MO_item_17 (by decide) ?_
  refine w_callV (as := [.int (nI p), .int (nI 93)]) (st := []) d_MO_item_19 yM_MO_is l_MO_83 vM_MO_is hx_2 rfl rfl rfl rfl (m_MO_is hx_2 tx1 ht31 (by omega) (by decide)) (by decide) (by decide) (by decide) (by decide) (Nat.le_of_ble_eq_true rfl) ?_
  rintro _ h9_3 ⟨rfl, e9_3⟩
  rw [e9_3]
  refine w_eq (st' := [.int (bI (decide (t[p]? = some 93)))]) rfl ?_
  refine w_if_eq (tgt := 32) d_MO_item_22 rfl (fun c22 => ?_) (fun c22 => ?_)
  · have c22 := of_decide_eq_false (bI_f c22)
    refine w_aload_n d_MO_item_32 rfl rfl ?_
    refine w_aload_n d_MO_item_33 rfl rfl ?_
    refine w_get d_MO_item_34 f_MO_86 hx_2 rfl ?_
    refine w_callV (as := [.int (nI p)]) (st := []) d_MO_item_37 yM_MO_propertyAt l_MO_111 vM_MO_propertyAt hx_2 rfl rfl rfl rfl (m_MO_propAt hx_2 tx1 ht31 (by omega)) (by decide) (by decide) (by decide) (by decide) (Nat.le_of_ble_eq_true rfl) ?_
    rintro _ h9_4 ⟨rfl, e9_4⟩
    rw [e9_4]
    refine w_eq (st' := [.int (bI (decide (pA t p)))]) rfl ?_
    refine w_if_eq (tgt := 63) d_MO_item_40 rfl (fun c40 => ?_) (fun c40 => ?_)
    · have c40 := of_decide_eq_false (bI_f c40)
      refine w_aload_n d_MO_item_63 rfl rfl ?_
      refine w_aload_n d_MO_item_64 rfl rfl ?_
      refine w_get d_MO_item_65 f_MO_86 hx_2 rfl ?_
      refine w_bipush (v := nI 91) d_MO_item_68 (by decide) ?_
      refine w_callV (as := [.int (nI p), .int (nI 91)]) (st := []) d_MO_item_70 yM_MO_is l_MO_83 vM_MO_is hx_2 rfl rfl rfl rfl (m_MO_is hx_2 tx1 ht31 (by omega) (by decide)) (by decide) (by decide) (by decide) (by decide) (Nat.le_of_ble_eq_true rfl) ?_
      rintro _ h9_5 ⟨rfl, e9_5⟩
      rw [e9_5]
      refine w_eq (st' := [.int (bI (decide (t[p]? = some 91)))]) rfl ?_
      refine w_if_eq (tgt := 83) d_MO_item_73 rfl (fun c73 => ?_) (fun c73 => ?_)
      · have c73 := of_decide_eq_false (bI_f c73)
        refine w_aload_n d_MO_item_83 rfl rfl ?_
        refine w_aload_n d_MO_item_84 rfl rfl ?_
        refine w_get d_MO_item_85 f_MO_86 hx_2 rfl ?_
        refine w_bipush (v := nI 123) d_MO_item_88 (by decide) ?_
        refine w_callV (as := [.int (nI p), .int (nI 123)]) (st := []) d_MO_item_90 yM_MO_is l_MO_83 vM_MO_is hx_2 rfl rfl rfl rfl (m_MO_is hx_2 tx1 ht31 (by omega) (by decide)) (by decide) (by decide) (by decide) (by decide) (Nat.le_of_ble_eq_true rfl) ?_
        rintro _ h9_6 ⟨rfl, e9_6⟩
        rw [e9_6]
        refine w_eq (st' := [.int (bI (decide (t[p]? = some 123)))]) rfl ?_
        refine w_if_eq (tgt := 103) d_MO_item_93 rfl (fun c93 => ?_) (fun c93 => ?_)
        · have c93 := of_decide_eq_false (bI_f c93)
          refine w_aload_n d_MO_item_103 rfl rfl ?_
          refine w_aload_n d_MO_item_104 rfl rfl ?_
          refine w_get d_MO_item_105 f_MO_86 hx_2 rfl ?_
          refine w_bipush (v := nI 45) d_MO_item_108 (by decide) ?_
          refine w_callV (as := [.int (nI p), .int (nI 45)]) (st := []) d_MO_item_110 yM_MO_is l_MO_83 vM_MO_is hx_2 rfl rfl rfl rfl (m_MO_is hx_2 tx1 ht31 (by omega) (by decide)) (by decide) (by decide) (by decide) (by decide) (Nat.le_of_ble_eq_true rfl) ?_
          rintro _ h9_7 ⟨rfl, e9_7⟩
          rw [e9_7]
          refine w_eq (st' := [.int (bI (decide (t[p]? = some 45)))]) rfl ?_
          suffices J129 : (t[p]? = some 45 ∨ t[p]? = some 38) → WP X M_MO_item (wR 7 0 0) 0 EN 0 0 129 [some (.ref 57)] [] h2 by
            refine w_if_ne (tgt := 129) d_MO_item_113 rfl (fun c113 => ?_) (fun c113 => ?_)
            · have c113 := of_decide_eq_true (bI_t c113)
              exact J129 (Or.inl c113)
            · have c113 := of_decide_eq_false (bI_f c113)
              refine w_aload_n d_MO_item_116 rfl rfl ?_
              refine w_aload_n d_MO_item_117 rfl rfl ?_
              refine w_get d_MO_item_118 f_MO_86 hx_2 rfl ?_
              refine w_bipush (v := nI 38) d_MO_item_121 (by decide) ?_
              refine w_callV (as := [.int (nI p), .int (nI 38)]) (st := []) d_MO_item_123 yM_MO_is l_MO_83 vM_MO_is hx_2 rfl rfl rfl rfl (m_MO_is hx_2 tx1 ht31 (by omega) (by decide)) (by decide) (by decide) (by decide) (by decide) (Nat.le_of_ble_eq_true rfl) ?_
              rintro _ h9_8 ⟨rfl, e9_8⟩
              rw [e9_8]
              refine w_eq (st' := [.int (bI (decide (t[p]? = some 38)))]) rfl ?_
              refine w_if_eq (tgt := 136) d_MO_item_126 rfl (fun c126 => ?_) (fun c126 => ?_)
              · have c126 := of_decide_eq_false (bI_f c126)
                refine w_aload_n d_MO_item_136 rfl rfl ?_
                refine w_callV (as := []) (st := []) d_MO_item_137 yM_MO_chars l_MO_190 vM_MO_chars hx_2 rfl rfl rfl rfl (m_MO_chars hQ1 hR hip ht31 (hip.how c73 c40)) (by decide) (by decide) (by decide) (by decide) (Nat.le_of_ble_eq_true rfl) ?_
                rintro _ g9 ⟨rfl, pq⟩
                refine w_eq (st' := []) rfl ?_
                rw [← hEN]
                refine w_vret d_MO_item_140 rfl ?_
                have hres : pItem t B (j + 1) k = pChr t B (j + 1) p := by
                  exact hchr c22 c40 c73 c93 c113 c126
                rw [hres]
                exact pQ.tr o1 ⟨rfl, pq⟩
              · have c126 := of_decide_eq_true (bI_t c126)
                exact J129 (Or.inr c126)
          intro hor
          refine w_aload_n d_MO_item_129 rfl rfl ?_
          refine w_callV (as := []) (st := []) d_MO_item_130 yM_MO_signOrDash l_MO_187 vM_MO_signOrDash hx_2 rfl rfl rfl rfl (m_MO_signOrDash hQ1 hR hip ht31 (fun z => hip.how c73 c40) (by rcases hor with z | z <;> exact lx_lt z)) (by decide) (by decide) (by decide) (by decide) (Nat.le_of_ble_eq_true rfl) ?_
          rintro _ g9 ⟨rfl, pq⟩
          refine w_eq (st' := []) rfl ?_
          refine w_goto (tgt := 140) d_MO_item_133 rfl ?_
          rw [← hEN]
          refine w_vret d_MO_item_140 rfl ?_
          have hres : pItem t B (j + 1) k = pSgn t B (j + 1) p := by
            rcases hor with z | z
            · rw [hpk, pX_at z, show lxAt t p 45 = some (some (9, nI 45), 1) from rfl]
              dsimp only
              unfold pKind
              rw [if_neg (by omega), if_neg (by decide), if_neg (by decide), if_neg (by decide), if_neg (by decide), if_neg (by decide), if_pos (Or.inl rfl)]
            · rw [hpk, pX_at z, show lxAt t p 38 = some (some (10, nI 38), 1) from rfl]
              dsimp only
              unfold pKind
              rw [if_neg (by omega), if_neg (by decide), if_neg (by decide), if_neg (by decide), if_neg (by decide), if_neg (by decide), if_pos (Or.inr rfl)]
          rw [hres]
          exact pQ.tr o1 ⟨rfl, pq⟩
        · have c93 := of_decide_eq_true (bI_t c93)
          refine w_aload_n d_MO_item_96 rfl rfl ?_
          refine w_callV (as := []) (st := []) d_MO_item_97 yM_MO_string l_MO_184 vM_MO_string hx_2 rfl rfl rfl rfl (m_MO_string hQ1 hR hip ht31 (hip.how c73 c40) (lx_lt c93)) (by decide) (by decide) (by decide) (by decide) (Nat.le_of_ble_eq_true rfl) ?_
          rintro _ g9 ⟨rfl, pq⟩
          refine w_eq (st' := []) rfl ?_
          refine w_goto (tgt := 140) d_MO_item_100 rfl ?_
          rw [← hEN]
          refine w_vret d_MO_item_140 rfl ?_
          have hres : pItem t B (j + 1) k = pStr t B (j + 1) p := by
            rw [hpk, pX_at c93, show lxAt t p 123 = some (some (7, nI 123), 1) from rfl]
            dsimp only
            unfold pKind
            rw [if_neg (by omega), if_neg (by decide), if_neg (by decide), if_neg (by decide), if_neg (by decide), if_pos rfl]
          rw [hres]
          exact pQ.tr o1 ⟨rfl, pq⟩
      · have c73 := of_decide_eq_true (bI_t c73)
        refine w_aload_n d_MO_item_76 rfl rfl ?_
        refine w_callV (as := []) (st := []) d_MO_item_77 yM_MO_open l_MO_181 vM_MO_open hx_2 rfl rfl rfl rfl (m_MO_open (B := B) hQ1 (by omega) hR ht31 (by omega)) (by decide) (by decide) (by decide) (by decide) (Nat.le_of_ble_eq_true rfl) ?_
        rintro _ g9 ⟨rfl, pq⟩
        refine w_eq (st' := []) rfl ?_
        refine w_goto (tgt := 140) d_MO_item_80 rfl ?_
        rw [← hEN]
        refine w_vret d_MO_item_140 rfl ?_
        have hres : pItem t B (j + 1) k = pOpen t B (j + 1) p := by
          rw [hpk, pX_at c73, show lxAt t p 91 = lxOpen t p from rfl]
          have h58 : ¬ t[p + 1]? = some 58 := fun z => c40 (Or.inl ⟨c73, z⟩)
          unfold lxOpen
          by_cases h94 : t[p + 1]? = some 94
          · rw [if_pos h94]
            dsimp only
            unfold pKind
            rw [if_neg (by omega), if_neg (by decide), if_neg (by decide), if_pos (Or.inr rfl)]
          · rw [if_neg h94, if_neg h58]
            dsimp only
            unfold pKind
            rw [if_neg (by omega), if_neg (show ¬ (4 : Nat) = 1 by decide), if_neg (show ¬ ((4 : Nat) = 2 ∨ (4 : Nat) = 3) by decide), if_pos (Or.inl rfl)]
        rw [hres]
        exact pQ.tr o1 ⟨rfl, pq⟩
    · have c40 := of_decide_eq_true (bI_t c40)
      refine w_aload_n d_MO_item_43 rfl rfl ?_
      refine w_callV (as := []) (st := []) d_MO_item_44 yM_MO_property l_MO_178 vM_MO_property hx_2 rfl rfl rfl rfl (m_MO_property hx_2 tx1 ht31 (hE.keep K1) h11 s11 (by omega) c40) (by decide) (by decide) (by decide) (by decide) (Nat.le_of_ble_eq_true rfl) ?_
      rintro _ g2 ⟨rfl, kf, F2, T2, k2, x2, em2, j2, b2, q2⟩
      refine w_eq (st' := []) rfl ?_
      have K2 : ∀ q, q ≠ 57 → (q < 59 ∨ 63 ≤ q) → g2[q]? = h[q]? := fun q h8 h9 => (kf q h8 h9).trans (K1 q h8)
      refine w_aload_n d_MO_item_47 rfl rfl ?_
      refine w_get d_MO_item_48 f_MO_93 x2 rfl ?_
      refine w_if_eq (tgt := 140) d_MO_item_51 rfl (fun c51 => ?_) (fun c51 => ?_)
      · have c51 := bI_f c51
        have hres : pItem t B (j + 1) k = none := by
          rw [hpk]
          split
          · rename_i q w z
            rw [z] at c51; cases c51
          · rfl
        rw [← hEN]
        refine w_vret d_MO_item_140 rfl ?_
        rw [hres]
        rw [c51] at x2
        exact pQ_no (hQ.x x2 (htx.k2 (K2 58 (by omega) (by omega))) em2 ((K2 63 (by omega) (by omega)).trans h63) ((K2 64 (by omega) (by omega)).trans h64) ((K2 65 (by omega) (by omega)).trans h65) (ex_k h66 (K2 66 (by omega) (by omega))) (ex_k h67 (K2 67 (by omega) (by omega)))) (fun q hq9 => K2 q (by omega) (by omega)) (fun q hq9 => j2 q (by omega))
      · have c51 := bI_t c51
        obtain ⟨y2, hy2⟩ := Option.isSome_iff_exists.mp c51
        obtain ⟨q, w, hyq⟩ : ∃ q w, y2 = (some q, w) := pX_some c40 hy2
        subst hyq
        obtain ⟨e2, f2, s2⟩ := q2 q w hy2
        have hkq := pX_prop c40 hy2
        have hok := pX_ok ht31 hy2
        have htb := pTab_ok hok.1 hkq
        have j23 := j2 (3 + j) (by omega)
        rw [hy2] at x2
        have hres : pItem t B (j + 1) k = rJoin B (j + 1) (p + w) (pTab q, []) true := by
          rw [hpk, hy2]
          dsimp only
          unfold pKind
          rw [if_neg (by omega), if_neg (by omega), if_pos hkq]
        refine w_aload_n d_MO_item_54 rfl rfl ?_
        refine w_bipush (v := nI 8) d_MO_item_55 (by decide) ?_
        refine w_callV (as := [.int (nI 8)]) (st := []) d_MO_item_57 yM_MO_takeSet l_MO_159 vM_MO_takeSet x2 rfl rfl rfl rfl (m_MO_takeSet (g := true) (j := j) (m := 8) (how := (B j).2.2.2.2) (fb := fb) (fs := fs) x2 em2 (by omega) ((K2 64 (by omega) (by omega)).trans h64) ((K2 65 (by omega) (by omega)).trans h65) hr.2.2.2.2 (by omega) (by omega) hI.2.2.2.2 (by rw [j23.1, hr.1]; exact hI.1) (by rw [f2]; exact htb.1) (by rw [f2, j23.1, hr.1]; have := hI.2.1; omega) (by rw [j23.2]; exact sR_sOk hr.2.1 hI.2.2.1) (by rw [s2]; intro y hy; cases hy) (by rw [s2, j23.2, ← sR_len hr.2.1]; have := hI.2.2.2.1; have e0 : ([] : List Nat).length = 0 := rfl; omega)) (by decide) (by decide) (by decide) (by decide) (Nat.le_of_ble_eq_true rfl) ?_
        rintro _ g3 ⟨rfl, k3, F3, T3, fb3, fs3, x3, em3, a3, b3, q3, r3, j3, u3, v3, w3⟩
        refine w_eq (st' := []) rfl ?_
        refine w_goto (tgt := 140) d_MO_item_60 rfl ?_
        rw [← hEN]
        refine w_vret d_MO_item_140 rfl ?_
        rw [hres]
        have KK : ∀ q, q < 57 ∨ q = 58 ∨ q = 63 ∨ 66 ≤ q → g3[q]? = h[q]? := fun q hq9 => (k3 q hq9).trans (K2 q (by omega) (by omega))
        rw [e2] at x3
        refine pQ_join (EE0 := EE) (SS0 := SS) (fb0 := fb) (fs0 := fs) (z := true) hR (hQ.x x3 (htx.k2 (KK 58 (by omega))) em3 ((KK 63 (by omega)).trans h63) a3 b3 (ex_k h66 (KK 66 (by omega))) (ex_k h67 (KK 67 (by omega)))) (Bool.true_and _) ?_ ?_ (fun q hq9 => ?_) u3 v3 w3 (fun q hq9 => KK q (by omega)) (fun q hq9 => ?_)
        · rw [q3, f2, j23.1, hr.1]
        · rw [r3, s2, j23.2]; exact sR_mk hr.2.1 sR_nil
        · have z1 := j3 (3 + q) (by omega) (by omega)
          have z2 := j2 (3 + q) (by omega)
          exact ⟨z1.1.trans z2.1, z1.2.trans z2.2⟩
        · have z1 := j3 q (by omega) (by omega)
          have z2 := j2 q (by omega)
          exact ⟨z1.1.trans z2.1, z1.2.trans z2.2⟩
  · have c22 := of_decide_eq_true (bI_t c22)
    refine w_aload_n d_MO_item_25 rfl rfl ?_
    refine w_callV (as := []) (st := []) d_MO_item_26 yM_MO_shut l_MO_175 vM_MO_shut hx_2 rfl rfl rfl rfl (m_MO_shut hQ1 hR hip h11 s11) (by decide) (by decide) (by decide) (by decide) (Nat.le_of_ble_eq_true rfl) ?_
    rintro _ g9 ⟨rfl, pq⟩
    refine w_eq (st' := []) rfl ?_
    refine w_goto (tgt := 140) d_MO_item_29 rfl ?_
    rw [← hEN]
    refine w_vret d_MO_item_140 rfl ?_
    have hres : pItem t B (j + 1) k = rEnd B (j + 1) p := by
      rw [hpk, pX_at c22, show lxAt t p 93 = some (some (6, nI 93), 1) from rfl]
      dsimp only
      unfold pKind
      rw [if_neg (by omega), if_neg (by decide), if_neg (by decide), if_neg (by decide), if_pos rfl]
    rw [hres]
    exact pQ.tr o1 ⟨rfl, pq⟩
end MO17
