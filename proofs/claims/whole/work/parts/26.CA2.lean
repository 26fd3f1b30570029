/-! CaseRules.collectAlikes: written by wip/gen/ca2.py -/
/-- the code points that are alike to another one -/
def casd (x : Nat) : Bool := decide ((65 ≤ x ∧ x < 91) ∨ (97 ≤ x ∧ x < 123) ∨ (192 ≤ x ∧ x < 215) ∨ (216 ≤ x ∧ x < 223) ∨ (224 ≤ x ∧ x < 247) ∨ (248 ≤ x ∧ x < 255) ∨ (383 ≤ x ∧ x < 384) ∨ (931 ≤ x ∧ x < 932) ∨ (962 ≤ x ∧ x < 964) ∨ (8490 ≤ x ∧ x < 8492))
def eCap (A : List Nat) (c : Nat) : Nat := A.length + (if A.getLast? = some c then 0 else 1)
theorem eCap_le (A : List Nat) (c : Nat) : A.length ≤ eCap A c ∧ eCap A c ≤ A.length + 1 := by
  unfold eCap
  split <;> omega
theorem eCap_no {A : List Nat} {c : Nat} : eCap A (c + 1) ≤ eCap A c + 1 := by
  have h1 := eCap_le A (c + 1)
  have h2 := eCap_le A c
  omega
theorem eCap_yes {A : List Nat} {c : Nat} (hA : eAsc A) (hc : ∀ y ∈ A, y ≤ c) : eCap (eTog (eTog A c) (c + 1)) (c + 1) ≤ eCap A c + 1 := by
  have h1 := eTog_ok hA hc
  rw [eTog_new (fun y hy => by have := h1.2.1 y hy; omega)]
  unfold eCap
  rw [List.getLast?_concat, if_pos rfl, List.length_append, List.length_singleton]
  unfold eTog
  split
  · rw [List.length_dropLast]
    omega
  · rw [List.length_append, List.length_singleton]
    omega
theorem casd_gap {hi lo x : Nat} (hgap : ∀ y, hi ≤ y → y < lo → casd y = false) (hle : hi ≤ lo) (b : Bool) : (decide (x < hi) && (casd x && b)) = (decide (x < lo) && (casd x && b)) := by
  by_cases h1 : x < hi
  · rw [decide_eq_true h1, decide_eq_true (by omega)]
  · rw [decide_eq_false h1]
    by_cases h2 : x < lo
    · rw [hgap x (by omega) h2]
      cases decide (x < lo) <;> rfl
    · rw [decide_eq_false h2]
theorem casd_0 (x : Nat) (b : Bool) : eMem [] x = (decide (x < 65) && (casd x && b)) := by
  rw [show eMem [] x = false from rfl]
  by_cases hx : x < 65
  · rw [show casd x = false from decide_eq_false (by omega)]
    simp
  · rw [decide_eq_false hx]
    rfl
theorem eTog2_mem {A : List Nat} {c : Nat} (hA : eAsc A) (hc : ∀ y ∈ A, y ≤ c) (x : Nat) : eMem (eTog (eTog A c) (c + 1)) x = (eMem A x != decide (x = c)) := by
  have h1 := eTog_ok hA hc
  have h2 := eTog_ok h1.1 (x := c + 1) (fun y hy => by have := h1.2.1 y hy; omega)
  rw [h2.2.2, h1.2.2]
  by_cases h3 : x = c
  · subst h3
    rw [decide_eq_true (Nat.le_refl x), decide_eq_false (by omega : ¬ x + 1 ≤ x), decide_eq_true rfl]
    cases eMem A x <;> rfl
  · rw [decide_eq_false h3]
    by_cases h4 : c ≤ x
    · rw [decide_eq_true h4, decide_eq_true (by omega : c + 1 ≤ x)]
      cases eMem A x <;> rfl
    · rw [decide_eq_false h4, decide_eq_false (by omega : ¬ c + 1 ≤ x)]
      cases eMem A x <;> rfl
section CA2
variable {X : wX}
set_option maxHeartbeats 4000000 in
set_option maxRecDepth 100000 in
theorem m_CA_collect (hT : xTab X) {h : wH} {p q : Nat} {E S A0 S0 : List Nat} (hm : hMS h p E S) (hq : hMS h q A0 S0) (hd : p + 3 ≤ q ∨ q + 3 ≤ p) (hA : eAsc E) (hE31 : ∀ y ∈ E, y < 2 ^ 31) : PM X M_CA_collectAlikes 2 0 0 [.ref p, .ref q] h (fun r h' => r = none ∧ ∃ A, hMS h' q A [] ∧ wOff h h' q 3 ∧ eAsc A ∧ (∀ y ∈ A, y ≤ 8492) ∧ A.length ≤ 128 ∧ ∀ x, eMem A x = (casd x && alk E x)) := by
  have hhm := hm
  have ghm := hq; obtain ⟨gf, gk, gp, ga, gb, gl1, gl2, ghf, ghk⟩ := hq
  refine PM.at (pl := [some (.ref p), some (.ref q), none, none]) rfl rfl (by simp [wle, wen]) ?_
  generalize hEN : wEm X 0 0 _ = EN
  have L : ∀ (n kk hi lo bd c : Nat) (A : List Nat) (h3 : wH), hi - c < n → kk + 1 < 20 → (tabL.getD 10 []).getD (kk + 1) 0 = hi → lo ≤ c → c ≤ hi → hi ≤ 8492 → 32 ≤ lo → (∀ x, lo ≤ x → x < hi → casd x = true) → bd + (hi - lo) ≤ 200 → (hMS h3 q A []) → (wOff h h3 q 3) → (eAsc A) → (∀ y ∈ A, y ≤ c) → (∀ x, eMem A x = (decide (x < c) && (casd x && alk E x))) → (eCap A c ≤ bd + (c - lo)) → (∀ (A' : List Nat) (h' : wH), (hMS h' q A' []) → (wOff h h' q 3) → (eAsc A') → (∀ y ∈ A', y ≤ hi) → (∀ x, eMem A' x = (decide (x < hi) && (casd x && alk E x))) → (eCap A' hi ≤ bd + (hi - lo)) → WP X M_CA_collectAlikes (wR 2 0 0) 0 EN 0 0 53 [some (.ref p), some (.ref q), some (.int (nI kk)), some (.int (nI hi))] [] h') → WP X M_CA_collectAlikes (wR 2 0 0) 0 EN 0 0 22 [some (.ref p), some (.ref q), some (.int (nI kk)), some (.int (nI c))] [] h3 := by
    intro n
    induction n with
    | zero => intro kk hi lo bd c A h3 k1; omega
    | succ n ih =>
      intro kk hi lo bd c A h3 k1 k2 k3 k4 k5 k6 k7 k8 k9 i1 i2 i3 i4 i5 i6 kend
      obtain ⟨tf, tk, tp, ta, tb, tl1, tl2, thf, thk⟩ := i1
      have i1 : hMS h3 q A [] := ⟨tf, tk, tp, ta, tb, tl1, tl2, thf, thk⟩
      have hcap := eCap_le A c
      refine w_iload_n d_CA_collectAlikes_22 rfl ?_
      refine w_gets (i := 10) d_CA_collectAlikes_23 (by decide +kernel) g_CA_12 ?_
      refine w_iload_n d_CA_collectAlikes_26 rfl ?_
      refine w_iconst (v := nI 1) d_CA_collectAlikes_27 (by decide) ?_
      refine w_iadd d_CA_collectAlikes_28 ?_
      refine w_topi (y := nI (kk + 1)) (nI_add _ _) ?_
      refine w_ti d_CA_collectAlikes_29 (hT 10 _ rfl) (vp_in_nI k2 (by decide)) ?_
      refine w_topi (y := nI hi) (by rw [nI_clamp (by omega)]; exact congrArg nI k3) ?_
      refine w_icmp_ge (tgt := 53) d_CA_collectAlikes_30 rfl (fun c30 => ?_) (fun c30 => ?_)
      · have c30 := (nI_leI (a := hi) (b := c) (by omega) (by omega)).mp c30
        have hce : c = hi := by omega
        subst hce
        exact kend A h3 i1 i2 i3 i4 i5 i6
      · have c30 : c < hi := Nat.not_le.mp (fun z => c30 ((nI_leI (a := hi) (b := c) (by omega) (by omega)).mpr z))
        refine w_aload_n d_CA_collectAlikes_33 rfl rfl ?_
        refine w_iload_n d_CA_collectAlikes_34 rfl ?_
        refine w_callS (as := [.ref p, .int (nI c)]) (st := []) d_CA_collectAlikes_35 yM_CA_isAlikeToMember l_CA_18 sM_CA_isAlikeToMember rfl rfl (m_CA_isAlike hT (hhm.off i2 (by omega)) hA hE31 (by omega) (by omega)) (by decide) (by decide) (by decide) (by decide) (Nat.le_of_ble_eq_true rfl) ?_
        rintro _ h9_1 ⟨rfl, e9_1⟩
        rw [e9_1]
        refine w_eq (st' := [.int (bI (alk E c))]) rfl ?_
        refine w_if_eq (tgt := 47) d_CA_collectAlikes_38 rfl (fun c38 => ?_) (fun c38 => ?_)
        · have c38 := bI_f c38
          refine w_iinc (v := nI (c + 1)) d_CA_collectAlikes_47 rfl (nI_1 _) (by decide) ?_
          refine w_goto (tgt := 22) d_CA_collectAlikes_50 rfl ?_
          refine ih kk hi lo bd (c + 1) A h3 (by omega) k2 k3 (by omega) (by omega) k6 k7 k8 k9 i1 i2 i3 (fun y hy => by have := i4 y hy; omega) (fun x => ?_) (by have := eCap_no (A := A) (c := c); omega) kend
          rw [i5 x]
          by_cases hx : x = c
          · subst hx; rw [c38, decide_eq_false (Nat.lt_irrefl x)]; simp
          · by_cases hx2 : x < c
            · rw [decide_eq_true hx2, decide_eq_true (by omega)]
            · rw [decide_eq_false hx2, decide_eq_false (by omega)]
        · have c38 := bI_t c38
          refine w_aload_n d_CA_collectAlikes_41 rfl rfl ?_
          refine w_iload_n d_CA_collectAlikes_42 rfl ?_
          refine w_iload_n d_CA_collectAlikes_43 rfl ?_
          refine w_callV (as := [.int (nI c), .int (nI c)]) (st := []) d_CA_collectAlikes_44 yM_MS_appendRange l_CA_22 vM_MS_appendRange tp rfl rfl rfl rfl (m_MS_appendRange i1 i3 i4 (Nat.le_refl _) (by omega) (by omega)) (by decide) (by decide) (by decide) (by decide) (Nat.le_of_ble_eq_true rfl) ?_
          rintro _ h4 ⟨rfl, hm4, ho4⟩
          refine w_eq (st' := []) rfl ?_
          refine w_iinc (v := nI (c + 1)) d_CA_collectAlikes_47 rfl (nI_1 _) (by decide) ?_
          refine w_goto (tgt := 22) d_CA_collectAlikes_50 rfl ?_
          have ht1 := eTog_ok i3 i4
          have ht2 := eTog_ok ht1.1 (x := c + 1) (fun y hy => by have := ht1.2.1 y hy; omega)
          refine ih kk hi lo bd (c + 1) _ h4 (by omega) k2 k3 (by omega) (by omega) k6 k7 k8 k9 hm4 (i2.tr ho4) ht2.1 ht2.2.1 (fun x => ?_) (by have := eCap_yes i3 i4; omega) kend
          rw [eTog2_mem i3 i4, i5 x]
          by_cases hx : x = c
          · subst hx; rw [c38, k8 x k4 c30, decide_eq_false (Nat.lt_irrefl x), decide_eq_true rfl, decide_eq_true (Nat.lt_succ_self x)]; rfl
          · rw [decide_eq_false hx]
            by_cases hx2 : x < c
            · rw [decide_eq_true hx2, decide_eq_true (by omega)]; simp
            · rw [decide_eq_false hx2, decide_eq_false (by omega)]; rfl
  refine w_aload_n d_CA_collectAlikes_0 rfl rfl ?_
  refine w_callV (as := []) (st := []) d_CA_collectAlikes_1 yM_MS_clear l_CA_7 vM_MS_clear gp rfl rfl rfl rfl (m_MS_clear ghm) (by decide) (by decide) (by decide) (by decide) (Nat.le_of_ble_eq_true rfl) ?_
  rintro _ h1 ⟨rfl, hm1, ho1⟩
  refine w_eq (st' := []) rfl ?_
  refine w_iconst (v := nI 0) d_CA_collectAlikes_4 (by decide) ?_
  refine w_istore_n d_CA_collectAlikes_5 (by decide) ?_
  refine w_iload_n d_CA_collectAlikes_6 rfl ?_
  refine w_iconst (v := nI 1) d_CA_collectAlikes_7 (by decide) ?_
  refine w_iadd d_CA_collectAlikes_8 ?_
  refine w_topi (y := nI 1) (by decide) ?_
  refine w_gets (i := 10) d_CA_collectAlikes_9 (by decide +kernel) g_CA_12 ?_
  refine w_tlen (v := nI 20) d_CA_collectAlikes_12 (hT 10 _ rfl) rfl ?_
  refine w_icmp_ge (tgt := 59) d_CA_collectAlikes_13 rfl (fun z => absurd z (by decide)) (fun _ => ?_)
  refine w_gets (i := 10) d_CA_collectAlikes_16 (by decide +kernel) g_CA_12 ?_
  refine w_iload_n d_CA_collectAlikes_19 rfl ?_
  refine w_ti d_CA_collectAlikes_20 (hT 10 _ rfl) (vp_in_nI (by decide) (by decide)) ?_
  refine w_topi (y := nI 65) (by decide) ?_
  refine w_istore_n d_CA_collectAlikes_21 (by decide) ?_
  refine L 200 0 91 65 1 65 [] h1 (by omega) (by omega) rfl (Nat.le_refl _) (by omega) (by omega) (by omega) (fun x q1 q2 => decide_eq_true (by omega)) (by omega) hm1 ho1 List.Pairwise.nil (fun y hy => by cases hy) (fun x => casd_0 x _) (by decide) (fun B1 g1 u1 v1 w1 x1 y1 z1 => ?_)
  refine w_iinc (v := nI 2) d_CA_collectAlikes_53 rfl (by decide) (by decide) ?_
  refine w_goto (tgt := 6) d_CA_collectAlikes_56 rfl ?_
  refine w_iload_n d_CA_collectAlikes_6 rfl ?_
  refine w_iconst (v := nI 1) d_CA_collectAlikes_7 (by decide) ?_
  refine w_iadd d_CA_collectAlikes_8 ?_
  refine w_topi (y := nI 3) (by decide) ?_
  refine w_gets (i := 10) d_CA_collectAlikes_9 (by decide +kernel) g_CA_12 ?_
  refine w_tlen (v := nI 20) d_CA_collectAlikes_12 (hT 10 _ rfl) rfl ?_
  refine w_icmp_ge (tgt := 59) d_CA_collectAlikes_13 rfl (fun z => absurd z (by decide)) (fun _ => ?_)
  refine w_gets (i := 10) d_CA_collectAlikes_16 (by decide +kernel) g_CA_12 ?_
  refine w_iload_n d_CA_collectAlikes_19 rfl ?_
  refine w_ti d_CA_collectAlikes_20 (hT 10 _ rfl) (vp_in_nI (by decide) (by decide)) ?_
  refine w_topi (y := nI 97) (by decide) ?_
  refine w_istore_n d_CA_collectAlikes_21 (by decide) ?_
  refine L 200 2 123 97 28 97 B1 g1 (by omega) (by omega) rfl (Nat.le_refl _) (by omega) (by omega) (by omega) (fun x q1 q2 => decide_eq_true (by omega)) (by omega) u1 v1 w1 (fun y hy => by have := x1 y hy; omega) (fun x => by rw [y1 x]; exact casd_gap (fun y q1 q2 => decide_eq_false (by omega)) (by omega) _) (by have q1 := eCap_le B1 91; have q2 := eCap_le B1 97; omega) (fun B2 g2 u2 v2 w2 x2 y2 z2 => ?_)
  refine w_iinc (v := nI 4) d_CA_collectAlikes_53 rfl (by decide) (by decide) ?_
  refine w_goto (tgt := 6) d_CA_collectAlikes_56 rfl ?_
  refine w_iload_n d_CA_collectAlikes_6 rfl ?_
  refine w_iconst (v := nI 1) d_CA_collectAlikes_7 (by decide) ?_
  refine w_iadd d_CA_collectAlikes_8 ?_
  refine w_topi (y := nI 5) (by decide) ?_
  refine w_gets (i := 10) d_CA_collectAlikes_9 (by decide +kernel) g_CA_12 ?_
  refine w_tlen (v := nI 20) d_CA_collectAlikes_12 (hT 10 _ rfl) rfl ?_
  refine w_icmp_ge (tgt := 59) d_CA_collectAlikes_13 rfl (fun z => absurd z (by decide)) (fun _ => ?_)
  refine w_gets (i := 10) d_CA_collectAlikes_16 (by decide +kernel) g_CA_12 ?_
  refine w_iload_n d_CA_collectAlikes_19 rfl ?_
  refine w_ti d_CA_collectAlikes_20 (hT 10 _ rfl) (vp_in_nI (by decide) (by decide)) ?_
  refine w_topi (y := nI 192) (by decide) ?_
  refine w_istore_n d_CA_collectAlikes_21 (by decide) ?_
  refine L 200 4 215 192 55 192 B2 g2 (by omega) (by omega) rfl (Nat.le_refl _) (by omega) (by omega) (by omega) (fun x q1 q2 => decide_eq_true (by omega)) (by omega) u2 v2 w2 (fun y hy => by have := x2 y hy; omega) (fun x => by rw [y2 x]; exact casd_gap (fun y q1 q2 => decide_eq_false (by omega)) (by omega) _) (by have q1 := eCap_le B2 123; have q2 := eCap_le B2 192; omega) (fun B3 g3 u3 v3 w3 x3 y3 z3 => ?_)
  refine w_iinc (v := nI 6) d_CA_collectAlikes_53 rfl (by decide) (by decide) ?_
  refine w_goto (tgt := 6) d_CA_collectAlikes_56 rfl ?_
  refine w_iload_n d_CA_collectAlikes_6 rfl ?_
  refine w_iconst (v := nI 1) d_CA_collectAlikes_7 (by decide) ?_
  refine w_iadd d_CA_collectAlikes_8 ?_
  refine w_topi (y := nI 7) (by decide) ?_
  refine w_gets (i := 10) d_CA_collectAlikes_9 (by decide +kernel) g_CA_12 ?_
  refine w_tlen (v := nI 20) d_CA_collectAlikes_12 (hT 10 _ rfl) rfl ?_
  refine w_icmp_ge (tgt := 59) d_CA_collectAlikes_13 rfl (fun z => absurd z (by decide)) (fun _ => ?_)
  refine w_gets (i := 10) d_CA_collectAlikes_16 (by decide +kernel) g_CA_12 ?_
  refine w_iload_n d_CA_collectAlikes_19 rfl ?_
  refine w_ti d_CA_collectAlikes_20 (hT 10 _ rfl) (vp_in_nI (by decide) (by decide)) ?_
  refine w_topi (y := nI 216) (by decide) ?_
  refine w_istore_n d_CA_collectAlikes_21 (by decide) ?_
  refine L 200 6 223 216 79 216 B3 g3 (by omega) (by omega) rfl (Nat.le_refl _) (by omega) (by omega) (by omega) (fun x q1 q2 => decide_eq_true (by omega)) (by omega) u3 v3 w3 (fun y hy => by have := x3 y hy; omega) (fun x => by rw [y3 x]; exact casd_gap (fun y q1 q2 => decide_eq_false (by omega)) (by omega) _) (by have q1 := eCap_le B3 215; have q2 := eCap_le B3 216; omega) (fun B4 g4 u4 v4 w4 x4 y4 z4 => ?_)
  refine w_iinc (v := nI 8) d_CA_collectAlikes_53 rfl (by decide) (by decide) ?_
  refine w_goto (tgt := 6) d_CA_collectAlikes_56 rfl ?_
  refine w_iload_n d_CA_collectAlikes_6 rfl ?_
  refine w_iconst (v := nI 1) d_CA_collectAlikes_7 (by decide) ?_
  refine w_iadd d_CA_collectAlikes_8 ?_
  refine w_topi (y := nI 9) (by decide) ?_
  refine w_gets (i := 10) d_CA_collectAlikes_9 (by decide +kernel) g_CA_12 ?_
  refine w_tlen (v := nI 20) d_CA_collectAlikes_12 (hT 10 _ rfl) rfl ?_
  refine w_icmp_ge (tgt := 59) d_CA_collectAlikes_13 rfl (fun z => absurd z (by decide)) (fun _ => ?_)
  refine w_gets (i := 10) d_CA_collectAlikes_16 (by decide +kernel) g_CA_12 ?_
  refine w_iload_n d_CA_collectAlikes_19 rfl ?_
  refine w_ti d_CA_collectAlikes_20 (hT 10 _ rfl) (vp_in_nI (by decide) (by decide)) ?_
  refine w_topi (y := nI 224) (by decide) ?_
  refine w_istore_n d_CA_collectAlikes_21 (by decide) ?_
  refine L 200 8 247 224 87 224 B4 g4 (by omega) (by omega) rfl (Nat.le_refl _) (by omega) (by omega) (by omega) (fun x q1 q2 => decide_eq_true (by omega)) (by omega) u4 v4 w4 (fun y hy => by have := x4 y hy; omega) (fun x => by rw [y4 x]; exact casd_gap (fun y q1 q2 => decide_eq_false (by omega)) (by omega) _) (by have q1 := eCap_le B4 223; have q2 := eCap_le B4 224; omega) (fun B5 g5 u5 v5 w5 x5 y5 z5 => ?_)
  refine w_iinc (v := nI 10) d_CA_collectAlikes_53 rfl (by decide) (by decide) ?_
  refine w_goto (tgt := 6) d_CA_collectAlikes_56 rfl ?_
  refine w_iload_n d_CA_collectAlikes_6 rfl ?_
  refine w_iconst (v := nI 1) d_CA_collectAlikes_7 (by decide) ?_
  refine w_iadd d_CA_collectAlikes_8 ?_
  refine w_topi (y := nI 11) (by decide) ?_
  refine w_gets (i := 10) d_CA_collectAlikes_9 (by decide +kernel) g_CA_12 ?_
  refine w_tlen (v := nI 20) d_CA_collectAlikes_12 (hT 10 _ rfl) rfl ?_
  refine w_icmp_ge (tgt := 59) d_CA_collectAlikes_13 rfl (fun z => absurd z (by decide)) (fun _ => ?_)
  refine w_gets (i := 10) d_CA_collectAlikes_16 (by decide +kernel) g_CA_12 ?_
  refine w_iload_n d_CA_collectAlikes_19 rfl ?_
  refine w_ti d_CA_collectAlikes_20 (hT 10 _ rfl) (vp_in_nI (by decide) (by decide)) ?_
  refine w_topi (y := nI 248) (by decide) ?_
  refine w_istore_n d_CA_collectAlikes_21 (by decide) ?_
  refine L 200 10 255 248 111 248 B5 g5 (by omega) (by omega) rfl (Nat.le_refl _) (by omega) (by omega) (by omega) (fun x q1 q2 => decide_eq_true (by omega)) (by omega) u5 v5 w5 (fun y hy => by have := x5 y hy; omega) (fun x => by rw [y5 x]; exact casd_gap (fun y q1 q2 => decide_eq_false (by omega)) (by omega) _) (by have q1 := eCap_le B5 247; have q2 := eCap_le B5 248; omega) (fun B6 g6 u6 v6 w6 x6 y6 z6 => ?_)
  refine w_iinc (v := nI 12) d_CA_collectAlikes_53 rfl (by decide) (by decide) ?_
  refine w_goto (tgt := 6) d_CA_collectAlikes_56 rfl ?_
  refine w_iload_n d_CA_collectAlikes_6 rfl ?_
  refine w_iconst (v := nI 1) d_CA_collectAlikes_7 (by decide) ?_
  refine w_iadd d_CA_collectAlikes_8 ?_
  refine w_topi (y := nI 13) (by decide) ?_
  refine w_gets (i := 10) d_CA_collectAlikes_9 (by decide +kernel) g_CA_12 ?_
  refine w_tlen (v := nI 20) d_CA_collectAlikes_12 (hT 10 _ rfl) rfl ?_
  refine w_icmp_ge (tgt := 59) d_CA_collectAlikes_13 rfl (fun z => absurd z (by decide)) (fun _ => ?_)
  refine w_gets (i := 10) d_CA_collectAlikes_16 (by decide +kernel) g_CA_12 ?_
  refine w_iload_n d_CA_collectAlikes_19 rfl ?_
  refine w_ti d_CA_collectAlikes_20 (hT 10 _ rfl) (vp_in_nI (by decide) (by decide)) ?_
  refine w_topi (y := nI 383) (by decide) ?_
  refine w_istore_n d_CA_collectAlikes_21 (by decide) ?_
  refine L 200 12 384 383 119 383 B6 g6 (by omega) (by omega) rfl (Nat.le_refl _) (by omega) (by omega) (by omega) (fun x q1 q2 => decide_eq_true (by omega)) (by omega) u6 v6 w6 (fun y hy => by have := x6 y hy; omega) (fun x => by rw [y6 x]; exact casd_gap (fun y q1 q2 => decide_eq_false (by omega)) (by omega) _) (by have q1 := eCap_le B6 255; have q2 := eCap_le B6 383; omega) (fun B7 g7 u7 v7 w7 x7 y7 z7 => ?_)
  refine w_iinc (v := nI 14) d_CA_collectAlikes_53 rfl (by decide) (by decide) ?_
  refine w_goto (tgt := 6) d_CA_collectAlikes_56 rfl ?_
  refine w_iload_n d_CA_collectAlikes_6 rfl ?_
  refine w_iconst (v := nI 1) d_CA_collectAlikes_7 (by decide) ?_
  refine w_iadd d_CA_collectAlikes_8 ?_
  refine w_topi (y := nI 15) (by decide) ?_
  refine w_gets (i := 10) d_CA_collectAlikes_9 (by decide +kernel) g_CA_12 ?_
  refine w_tlen (v := nI 20) d_CA_collectAlikes_12 (hT 10 _ rfl) rfl ?_
  refine w_icmp_ge (tgt := 59) d_CA_collectAlikes_13 rfl (fun z => absurd z (by decide)) (fun _ => ?_)
  refine w_gets (i := 10) d_CA_collectAlikes_16 (by decide +kernel) g_CA_12 ?_
  refine w_iload_n d_CA_collectAlikes_19 rfl ?_
  refine w_ti d_CA_collectAlikes_20 (hT 10 _ rfl) (vp_in_nI (by decide) (by decide)) ?_
  refine w_topi (y := nI 931) (by decide) ?_
  refine w_istore_n d_CA_collectAlikes_21 (by decide) ?_
  refine L 200 14 932 931 121 931 B7 g7 (by omega) (by omega) rfl (Nat.le_refl _) (by omega) (by omega) (by omega) (fun x q1 q2 => decide_eq_true (by omega)) (by omega) u7 v7 w7 (fun y hy => by have := x7 y hy; omega) (fun x => by rw [y7 x]; exact casd_gap (fun y q1 q2 => decide_eq_false (by omega)) (by omega) _) (by have q1 := eCap_le B7 384; have q2 := eCap_le B7 931; omega) (fun B8 g8 u8 v8 w8 x8 y8 z8 => ?_)
  refine w_iinc (v := nI 16) d_CA_collectAlikes_53 rfl (by decide) (by decide) ?_
  refine w_goto (tgt := 6) d_CA_collectAlikes_56 rfl ?_
  refine w_iload_n d_CA_collectAlikes_6 rfl ?_
  refine w_iconst (v := nI 1) d_CA_collectAlikes_7 (by decide) ?_
  refine w_iadd d_CA_collectAlikes_8 ?_
  refine w_topi (y := nI 17) (by decide) ?_
  refine w_gets (i := 10) d_CA_collectAlikes_9 (by decide +kernel) g_CA_12 ?_
  refine w_tlen (v := nI 20) d_CA_collectAlikes_12 (hT 10 _ rfl) rfl ?_
  refine w_icmp_ge (tgt := 59) d_CA_collectAlikes_13 rfl (fun z => absurd z (by decide)) (fun _ => ?_)
  refine w_gets (i := 10) d_CA_collectAlikes_16 (by decide +kernel) g_CA_12 ?_
  refine w_iload_n d_CA_collectAlikes_19 rfl ?_
  refine w_ti d_CA_collectAlikes_20 (hT 10 _ rfl) (vp_in_nI (by decide) (by decide)) ?_
  refine w_topi (y := nI 962) (by decide) ?_
  refine w_istore_n d_CA_collectAlikes_21 (by decide) ?_
  refine L 200 16 964 962 123 962 B8 g8 (by omega) (by omega) rfl (Nat.le_refl _) (by omega) (by omega) (by omega) (fun x q1 q2 => decide_eq_true (by omega)) (by omega) u8 v8 w8 (fun y hy => by have := x8 y hy; omega) (fun x => by rw [y8 x]; exact casd_gap (fun y q1 q2 => decide_eq_false (by omega)) (by omega) _) (by have q1 := eCap_le B8 932; have q2 := eCap_le B8 962; omega) (fun B9 g9 u9 v9 w9 x9 y9 z9 => ?_)
  refine w_iinc (v := nI 18) d_CA_collectAlikes_53 rfl (by decide) (by decide) ?_
  refine w_goto (tgt := 6) d_CA_collectAlikes_56 rfl ?_
  refine w_iload_n d_CA_collectAlikes_6 rfl ?_
  refine w_iconst (v := nI 1) d_CA_collectAlikes_7 (by decide) ?_
  refine w_iadd d_CA_collectAlikes_8 ?_
  refine w_topi (y := nI 19) (by decide) ?_
  refine w_gets (i := 10) d_CA_collectAlikes_9 (by decide +kernel) g_CA_12 ?_
  refine w_tlen (v := nI 20) d_CA_collectAlikes_12 (hT 10 _ rfl) rfl ?_
  refine w_icmp_ge (tgt := 59) d_CA_collectAlikes_13 rfl (fun z => absurd z (by decide)) (fun _ => ?_)
  refine w_gets (i := 10) d_CA_collectAlikes_16 (by decide +kernel) g_CA_12 ?_
  refine w_iload_n d_CA_collectAlikes_19 rfl ?_
  refine w_ti d_CA_collectAlikes_20 (hT 10 _ rfl) (vp_in_nI (by decide) (by decide)) ?_
  refine w_topi (y := nI 8490) (by decide) ?_
  refine w_istore_n d_CA_collectAlikes_21 (by decide) ?_
  refine L 200 18 8492 8490 126 8490 B9 g9 (by omega) (by omega) rfl (Nat.le_refl _) (by omega) (by omega) (by omega) (fun x q1 q2 => decide_eq_true (by omega)) (by omega) u9 v9 w9 (fun y hy => by have := x9 y hy; omega) (fun x => by rw [y9 x]; exact casd_gap (fun y q1 q2 => decide_eq_false (by omega)) (by omega) _) (by have q1 := eCap_le B9 964; have q2 := eCap_le B9 8490; omega) (fun B10 g10 u10 v10 w10 x10 y10 z10 => ?_)
  refine w_iinc (v := nI 20) d_CA_collectAlikes_53 rfl (by decide) (by decide) ?_
  refine w_goto (tgt := 6) d_CA_collectAlikes_56 rfl ?_
  refine w_iload_n d_CA_collectAlikes_6 rfl ?_
  refine w_iconst (v := nI 1) d_CA_collectAlikes_7 (by decide) ?_
  refine w_iadd d_CA_collectAlikes_8 ?_
  refine w_topi (y := nI 21) (by decide) ?_
  refine w_gets (i := 10) d_CA_collectAlikes_9 (by decide +kernel) g_CA_12 ?_
  refine w_tlen (v := nI 20) d_CA_collectAlikes_12 (hT 10 _ rfl) rfl ?_
  refine w_icmp_ge (tgt := 59) d_CA_collectAlikes_13 rfl (fun _ => ?_) (fun z => absurd (by decide) z)
  rw [← hEN]
  refine w_vret d_CA_collectAlikes_59 rfl ?_
  refine ⟨rfl, B10, u10, v10, w10, x10, (by have := eCap_le B10 8492; omega), fun x => ?_⟩
  rw [y10 x]
  by_cases hx : x < 8492
  · rw [decide_eq_true hx]; rfl
  · rw [show casd x = false from decide_eq_false (by omega), decide_eq_false hx]; rfl
end CA2
