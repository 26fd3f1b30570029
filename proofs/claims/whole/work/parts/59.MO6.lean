/-! the reference's span and close: written by wip/gen/mo6.py -/
theorem eMem_ran {a b : Nat} (h : a ≤ b) (x : Nat) : eMem [a, b + 1] x = decide (a ≤ x ∧ x ≤ b) := by
  unfold eMem
  rw [eCnt_cons, eCnt_cons, eCnt_nil]
  by_cases h1 : a ≤ x
  · by_cases h2 : x ≤ b
    · rw [if_pos h1, if_neg (by omega), decide_eq_true ⟨h1, h2⟩]; rfl
    · rw [if_pos h1, if_pos (by omega), decide_eq_false (fun z => h2 z.2)]; rfl
  · rw [if_neg h1, if_neg (by omega), decide_eq_false (fun z => h1 z.1)]; rfl
/-- the pairs below c -/
def clP (E : List Nat) (c x : Nat) : Bool := (isLg x && decide (x < c) && eMem E (x + 32)) || (isLg (x - 32) && decide (x < c + 32) && eMem E (x - 32))
theorem isLg_c {x : Nat} (h : isLg x = true) : x < 91 ∨ 192 ≤ x := by
  have := of_decide_eq_true h
  omega
theorem isLg_lo {x : Nat} (h : isLg x = true) : 65 ≤ x ∧ x < 223 := by
  have := of_decide_eq_true h
  omega
theorem clP_s {E : List Nat} {c x : Nat} : clP E (c + 1) x = (clP E c x || (isLg c && ((decide (x = c) && eMem E (c + 32)) || (decide (x = c + 32) && eMem E c)))) := by
  unfold clP
  by_cases h1 : x = c
  · subst h1
    rw [decide_eq_true (by omega : x < x + 1), decide_eq_false (by omega : ¬ x < x), decide_eq_true (by omega : x < x + 1 + 32), decide_eq_true (by omega : x < x + 32), decide_eq_true rfl, decide_eq_false (by omega : ¬ x = x + 32)]
    cases isLg x <;> cases isLg (x - 32) <;> cases eMem E (x + 32) <;> cases eMem E (x - 32) <;> cases eMem E x <;> rfl
  · by_cases h2 : x = c + 32
    · subst h2
      rw [show c + 32 - 32 = c by omega, decide_eq_false (by omega : ¬ c + 32 < c + 1), decide_eq_false (by omega : ¬ c + 32 < c), decide_eq_true (by omega : c + 32 < c + 1 + 32), decide_eq_false (by omega : ¬ c + 32 < c + 32), decide_eq_false h1, decide_eq_true rfl]
      cases isLg (c + 32) <;> cases isLg c <;> cases eMem E (c + 32 + 32) <;> cases eMem E c <;> cases eMem E (c + 32) <;> rfl
    · rw [decide_eq_false h1, decide_eq_false h2]
      rw [show decide (x < c + 1) = decide (x < c) from decide_eq_decide.mpr ⟨fun z => by omega, fun z => by omega⟩, show decide (x < c + 1 + 32) = decide (x < c + 32) from decide_eq_decide.mpr ⟨fun z => by omega, fun z => by omega⟩]
      cases isLg c <;> simp
/-- what one pair brings -/
def alQ (E : List Nat) (c d x : Nat) : Bool := (decide (x = c) && eMem E d) || (decide (x = d) && eMem E c)
theorem cl_end (E : List Nat) (x : Nat) : (eMem E x || clP E 223 x || alQ E 75 8490 x || alQ E 107 8490 x || alQ E 83 383 x || alQ E 115 383 x || alQ E 197 8491 x || alQ E 229 8491 x || alQ E 931 962 x || alQ E 931 963 x || alQ E 962 963 x) = (eMem E x || (casd x && alk E x)) := by
  have key : ∀ v : Nat, x = v → (eMem E x || clP E 223 x || alQ E 75 8490 x || alQ E 107 8490 x || alQ E 83 383 x || alQ E 115 383 x || alQ E 197 8491 x || alQ E 229 8491 x || alQ E 931 962 x || alQ E 931 963 x || alQ E 962 963 x) = (eMem E v || clP E 223 v || alQ E 75 8490 v || alQ E 107 8490 v || alQ E 83 383 v || alQ E 115 383 v || alQ E 197 8491 v || alQ E 229 8491 v || alQ E 931 962 v || alQ E 931 963 v || alQ E 962 963 v) ∧ (eMem E x || (casd x && alk E x)) = (eMem E v || (casd v && alk E v)) := fun v h => by rw [h]; exact ⟨rfl, rfl⟩
  by_cases hs : x = 75 ∨ x = 107 ∨ x = 8490 ∨ x = 83 ∨ x = 115 ∨ x = 383 ∨ x = 197 ∨ x = 229 ∨ x = 8491 ∨ x = 931 ∨ x = 962 ∨ x = 963
  · rcases hs with h | h | h | h | h | h | h | h | h | h | h | h <;> (rw [(key _ h).1, (key _ h).2]; simp [clP, alQ, casd, alk, alk3, isLg]; try grind)
  · have hq : alQ E 75 8490 x = false ∧ alQ E 107 8490 x = false ∧ alQ E 83 383 x = false ∧ alQ E 115 383 x = false ∧ alQ E 197 8491 x = false ∧ alQ E 229 8491 x = false ∧ alQ E 931 962 x = false ∧ alQ E 931 963 x = false ∧ alQ E 962 963 x = false := by
      unfold alQ
      refine ⟨?_, ?_, ?_, ?_, ?_, ?_, ?_, ?_, ?_⟩ <;> (rw [decide_eq_false (by omega), decide_eq_false (by omega)]; rfl)
    obtain ⟨q1, q2, q3, q4, q5, q6, q7, q8, q9⟩ := hq
    rw [q1, q2, q3, q4, q5, q6, q7, q8, q9]
    simp only [Bool.or_false]
    have ha3 : alk3 E x = false := by
      unfold alk3
      rw [if_neg (by omega), if_neg (by omega), if_neg (by omega), if_neg (by omega)]
    unfold alk clP
    rw [ha3, Bool.or_false]
    by_cases l1 : isLg x = true
    · have hl := isLg_lo l1
      have hc : casd x = true := decide_eq_true (by have := of_decide_eq_true l1; omega)
      rw [hc, decide_eq_true (by omega : x < 223), decide_eq_true (by omega : x < 223 + 32), Bool.and_true, Bool.and_true, Bool.true_and]
    · have l1 : isLg x = false := by cases h : isLg x with | true => exact absurd h l1 | false => rfl
      by_cases l2 : isLg (x - 32) = true
      · have hl := isLg_lo l2
        have hc : casd x = true := decide_eq_true (by have := of_decide_eq_true l2; omega)
        rw [hc, l1, decide_eq_true (by omega : x < 223 + 32), Bool.and_true, Bool.true_and]
        simp
      · have l2 : isLg (x - 32) = false := by cases h : isLg (x - 32) with | true => exact absurd h l2 | false => rfl
        rw [l1, l2]
        simp
theorem bI_up {rf : Nat → Int32} {R : Nat → Bool} {k n j : Nat} {b : Bool} (hk : R k = true) (h : rf j = bI (R j)) : upd rf (if b = true then k + n else k) (nI 1) j = bI (R j || (b && decide (j = k + n))) := by
  cases b with
  | true =>
    rw [if_pos rfl]
    by_cases hj : j = k + n
    · subst hj
      rw [upd_eq, decide_eq_true rfl]; cases R (k + n) <;> rfl
    · rw [upd_ne hj, decide_eq_false hj, h]; cases R j <;> rfl
  | false =>
    rw [if_neg (by decide)]
    by_cases hj : j = k
    · subst hj
      rw [upd_eq, hk]; rfl
    · rw [upd_ne hj, h]; cases R j <;> rfl
theorem sE_R {E S t : List Nat} : ∀ (n s : Nat) (R R' : Nat → Bool) (g : Nat), s + n ≤ t.length + 1 → (∀ j, j ≤ t.length → R j = R' j) → sE E S t n s R g = sE E S t n s R' g
  | 0, _, _, _, _, _, _ => rfl
  | n + 1, s, R, R', g, h, hR => by
    unfold sE
    rw [hR s (by omega)]
    split
    · exact sE_R n (s + 1) _ _ s (by omega) (fun j hj => by simp only [hR j hj])
    · exact sE_R n (s + 1) R R' g (by omega) hR
section MO6
variable {X : wX}
set_option maxHeartbeats 4000000 in
set_option maxRecDepth 100000 in
theorem m_MO_span1 {h : wH} {t : List Nat} {EE SS : Nat → List Nat} (hm : hMO h t EE SS) (hk : mOk t EE SS) {r f0 : Nat} (hr : r < 3) (hf : f0 ≤ t.length) : PM X M_MO_span 2 0 0 [.ref 57, .int (nI r), .int (nI f0), .int (nI 1)] h (fun z h' => z = some (.int (nI (sE (EE r) (SS r) t (t.length + 1 - f0) f0 (fun j => decide (j = f0)) f0))) ∧ hMO h' t EE SS ∧ wOff h h' 57 11) := by
  have hm0 := hm; obtain ⟨⟨ap, gd, dp, wr, fi, hx⟩, htx, hE, hA⟩ := hm
  obtain ⟨ef, cf, sf, nf, ha, hb, hc, hd, hs⟩ := id hE
  obtain ⟨tf, tp, t60, thf⟩ := id htx
  obtain ⟨⟨f63, h63⟩, ⟨f64, h64⟩, ⟨f65, h65⟩, ⟨f66, h66⟩, ⟨f67, h67⟩⟩ := id hA
  obtain ⟨s1, s2, s3, s4, s5, s6⟩ := hs r (by omega)
  obtain ⟨r1, r2, r3, r4⟩ := hk.2.1 r hr
  have e31 : ∀ y ∈ EE r, y < 2 ^ 31 := fun y hy => by have := r1.2 y hy; omega
  obtain ⟨res, hres⟩ : ∃ res, res = sE (EE r) (SS r) t (t.length + 1 - f0) f0 (fun j => decide (j = f0)) f0 := ⟨_, rfl⟩
  rw [← hres]
  refine PM.at (pl := [some (.ref 57), some (.int (nI r)), some (.int (nI f0)), some (.int (nI 1)), none, none, none, none, none]) rfl rfl (by simp [wle, wen]) ?_
  generalize hEN : wEm X 0 0 _ = EN
  have L : ∀ (n : Nat) (k e : Nat) (R : Nat → Bool) (rf : Nat → Int32) (h3 : wH), (t.length + 1 - k < n) → (k ≤ t.length + 1) → (wOff h h3 67 1) → (h3[67]? = some (.inl (2, 61, .inl rf))) → (∀ j, j ≤ t.length → rf j = bI (R j)) → (sE (EE r) (SS r) t (t.length + 1 - k) k R e = res) → WP X M_MO_span (wR 2 0 0) 0 EN 0 0 63 [some (.ref 57), some (.int (nI r)), some (.int (nI f0)), some (.int (nI 1)), some (.int (nI e)), some (.int (nI k)), none, none, none] [] h3 := by
    intro n
    induction n with
    | zero => intro k e R rf h3 k1 k2 k4 k5 k6 k7; omega
    | succ n ih =>
      intro k e R rf h3 k1 k2 k4 k5 k6 k7
      have hx3 := (k4 57 (by omega)).trans hx
      have hm3 : hMO h3 t EE SS := ⟨⟨_, _, _, _, _, hx3⟩, htx.off k4 (by omega), hE.off k4 (by omega), ⟨⟨f63, (k4 _ (by omega)).trans h63⟩, ⟨f64, (k4 _ (by omega)).trans h64⟩, ⟨f65, (k4 _ (by omega)).trans h65⟩, ⟨f66, (k4 _ (by omega)).trans h66⟩, ⟨rf, k5⟩⟩⟩
      refine w_iload d_MO_span_63 rfl ?_
      refine w_aload_n d_MO_span_65 rfl rfl ?_
      refine w_get d_MO_span_66 f_MO_43 hx3 rfl ?_
      refine w_icmp_gt (tgt := 204) d_MO_span_69 rfl (fun c69 => ?_) (fun c69 => ?_)
      · have c69 := (nI_ltI (a := t.length) (b := k) (by omega) (by omega)).mp c69
        refine w_iload_n d_MO_span_204 rfl ?_
        refine w_if_eq (tgt := 213) d_MO_span_205 rfl (fun z => absurd z (by decide)) (fun _ => ?_)
        refine w_iload d_MO_span_208 rfl ?_
        refine w_goto (tgt := 217) d_MO_span_210 rfl ?_
        rw [← hEN]
        refine w_iret d_MO_span_217 rfl ?_
        rw [show t.length + 1 - k = 0 by omega] at k7
        unfold sE at k7
        rw [← k7]
        exact ⟨rfl, hm3, k4.wide (by omega) (by omega)⟩
      · have c69 : k ≤ t.length := Nat.not_lt.mp (fun z => c69 ((nI_ltI (a := t.length) (b := k) (by omega) (by omega)).mpr z))
        rw [show t.length + 1 - k = (t.length + 1 - (k + 1)) + 1 by omega] at k7
        unfold sE at k7
        refine w_aload_n d_MO_span_72 rfl rfl ?_
        refine w_iload_n d_MO_span_73 rfl ?_
        refine w_iload d_MO_span_74 rfl ?_
        refine w_iconst (v := nI 1) d_MO_span_76 (by decide) ?_
        refine w_callV (as := [.int (nI r), .int (nI k), .int (nI 1)]) (st := []) d_MO_span_77 yM_MO_begins l_MO_231 vM_MO_begins hx3 rfl rfl rfl rfl (m_MO_begins hm3 hk (n := 1) hr (by decide) (by decide) (by omega)) (by decide) (by decide) (by decide) (by decide) (Nat.le_of_ble_eq_true rfl) ?_
        rintro _ h9_1 ⟨rfl, e9_1⟩
        rw [e9_1]
        refine w_eq (st' := [.int (bI (tM (EE r) (SS r) t k 1))]) rfl ?_
        refine w_istore d_MO_span_80 (by decide) ?_
        refine w_pl (pl' := [some (.ref 57), some (.int (nI r)), some (.int (nI f0)), some (.int (nI 1)), some (.int (nI e)), some (.int (nI k)), some (.int (bI (tM (EE r) (SS r) t k 1))), none, none]) rfl ?_
        refine w_aload_n d_MO_span_82 rfl rfl ?_
        refine w_iload_n d_MO_span_83 rfl ?_
        refine w_iload d_MO_span_84 rfl ?_
        refine w_iconst (v := nI 2) d_MO_span_86 (by decide) ?_
        refine w_callV (as := [.int (nI r), .int (nI k), .int (nI 2)]) (st := []) d_MO_span_87 yM_MO_begins l_MO_231 vM_MO_begins hx3 rfl rfl rfl rfl (m_MO_begins hm3 hk (n := 2) hr (by decide) (by decide) (by omega)) (by decide) (by decide) (by decide) (by decide) (Nat.le_of_ble_eq_true rfl) ?_
        rintro _ h9_2 ⟨rfl, e9_2⟩
        rw [e9_2]
        refine w_eq (st' := [.int (bI (tM (EE r) (SS r) t k 2))]) rfl ?_
        refine w_istore d_MO_span_90 (by decide) ?_
        refine w_pl (pl' := [some (.ref 57), some (.int (nI r)), some (.int (nI f0)), some (.int (nI 1)), some (.int (nI e)), some (.int (nI k)), some (.int (bI (tM (EE r) (SS r) t k 1))), some (.int (bI (tM (EE r) (SS r) t k 2))), none]) rfl ?_
        refine w_aload_n d_MO_span_92 rfl rfl ?_
        refine w_iload_n d_MO_span_93 rfl ?_
        refine w_iload d_MO_span_94 rfl ?_
        refine w_iconst (v := nI 3) d_MO_span_96 (by decide) ?_
        refine w_callV (as := [.int (nI r), .int (nI k), .int (nI 3)]) (st := []) d_MO_span_97 yM_MO_begins l_MO_231 vM_MO_begins hx3 rfl rfl rfl rfl (m_MO_begins hm3 hk (n := 3) hr (by decide) (by decide) (by omega)) (by decide) (by decide) (by decide) (by decide) (Nat.le_of_ble_eq_true rfl) ?_
        rintro _ h9_3 ⟨rfl, e9_3⟩
        rw [e9_3]
        refine w_eq (st' := [.int (bI (tM (EE r) (SS r) t k 3))]) rfl ?_
        refine w_istore d_MO_span_100 (by decide) ?_
        refine w_pl (pl' := [some (.ref 57), some (.int (nI r)), some (.int (nI f0)), some (.int (nI 1)), some (.int (nI e)), some (.int (nI k)), some (.int (bI (tM (EE r) (SS r) t k 1))), some (.int (bI (tM (EE r) (SS r) t k 2))), some (.int (bI (tM (EE r) (SS r) t k 3)))]) rfl ?_
        refine w_iload_n d_MO_span_102 rfl ?_
        refine w_if_ne (tgt := 124) d_MO_span_103 rfl (fun _ => ?_) (fun z => absurd z (by decide))
        refine w_aload_n d_MO_span_124 rfl rfl ?_
        refine w_get d_MO_span_125 f_MO_39 hx3 rfl ?_
        refine w_iload d_MO_span_128 rfl ?_
        refine w_zald d_MO_span_130 k5 (vp_in_nI (by omega) (by decide)) ?_
        refine w_topi (y := bI (R k)) (by rw [nI_clamp (by omega)]; exact k6 k c69) ?_
        refine w_if_eq (tgt := 198) d_MO_span_131 rfl (fun c131 => ?_) (fun c131 => ?_)
        · have c131 := bI_f c131
          rw [if_neg (by rw [c131]; decide)] at k7
          refine w_iinc (v := nI (k + 1)) d_MO_span_198 rfl (nI_1 _) (by decide) ?_
          refine w_pl (pl' := [some (.ref 57), some (.int (nI r)), some (.int (nI f0)), some (.int (nI 1)), some (.int (nI e)), some (.int (nI (k + 1))), some (.int (bI (tM (EE r) (SS r) t k 1))), some (.int (bI (tM (EE r) (SS r) t k 2))), some (.int (bI (tM (EE r) (SS r) t k 3)))]) rfl ?_
          refine w_goto (tgt := 63) d_MO_span_201 rfl ?_
          refine w_le (pl' := [some (.ref 57), some (.int (nI r)), some (.int (nI f0)), some (.int (nI 1)), some (.int (nI e)), some (.int (nI (k + 1))), none, none, none]) ⟨rfl, rfl, rfl, rfl, rfl, rfl, trivial⟩ ?_
          exact ih (k + 1) e R rf h3 (by omega) (by omega) k4 k5 k6 k7
        · have c131 := bI_t c131
          rw [if_pos c131] at k7
          refine w_iload d_MO_span_134 rfl ?_
          refine w_istore d_MO_span_136 (by decide) ?_
          refine w_pl (pl' := [some (.ref 57), some (.int (nI r)), some (.int (nI f0)), some (.int (nI 1)), some (.int (nI k)), some (.int (nI k)), some (.int (bI (tM (EE r) (SS r) t k 1))), some (.int (bI (tM (EE r) (SS r) t k 2))), some (.int (bI (tM (EE r) (SS r) t k 3)))]) rfl ?_
          refine w_aload_n d_MO_span_138 rfl rfl ?_
          refine w_get d_MO_span_139 f_MO_39 hx3 rfl ?_
          refine w_iload d_MO_span_142 rfl ?_
          suffices J156 : WP X M_MO_span (wR 2 0 0) 0 EN 0 0 156 [some (.ref 57), some (.int (nI r)), some (.int (nI f0)), some (.int (nI 1)), some (.int (nI k)), some (.int (nI k)), some (.int (bI (tM (EE r) (SS r) t k 1))), some (.int (bI (tM (EE r) (SS r) t k 2))), some (.int (bI (tM (EE r) (SS r) t k 3)))] [.int (nI (if tM (EE r) (SS r) t k 1 = true then k + 1 else k)), .ref 67] h3 by
            refine w_if_eq (tgt := 154) d_MO_span_144 rfl (fun c144 => ?_) (fun c144 => ?_)
            · have c144 := bI_f c144
              refine w_iload d_MO_span_154 rfl ?_
              exact w_topi (by rw [c144]; rfl) J156
            · have c144 := bI_t c144
              refine w_iload d_MO_span_147 rfl ?_
              refine w_iconst (v := nI 1) d_MO_span_149 (by decide) ?_
              refine w_iadd d_MO_span_150 ?_
              refine w_topi (y := nI (k + 1)) (nI_add _ _) ?_
              refine w_goto (tgt := 156) d_MO_span_151 rfl ?_
              exact w_topi (by rw [c144]; rfl) J156
          refine w_iconst (v := nI 1) d_MO_span_156 (by decide) ?_
          refine w_zast d_MO_span_157 k5 (vp_in_nI (by split; (· have := tM_len (by assumption : tM (EE r) (SS r) t k 1 = true); omega); (· omega)) (by decide)) ?_
          refine w_nm (fun h4 e4 => ?_)
          have hx3_4 := wS_ne e4 (by omega) hx3
          have k5_4 := wS_eq e4 k5
          refine w_aload_n d_MO_span_158 rfl rfl ?_
          refine w_get d_MO_span_159 f_MO_39 hx3_4 rfl ?_
          refine w_iload d_MO_span_162 rfl ?_
          suffices J176 : WP X M_MO_span (wR 2 0 0) 0 EN 0 0 176 [some (.ref 57), some (.int (nI r)), some (.int (nI f0)), some (.int (nI 1)), some (.int (nI k)), some (.int (nI k)), some (.int (bI (tM (EE r) (SS r) t k 1))), some (.int (bI (tM (EE r) (SS r) t k 2))), some (.int (bI (tM (EE r) (SS r) t k 3)))] [.int (nI (if tM (EE r) (SS r) t k 2 = true then k + 2 else k)), .ref 67] h4 by
            refine w_if_eq (tgt := 174) d_MO_span_164 rfl (fun c164 => ?_) (fun c164 => ?_)
            · have c164 := bI_f c164
              refine w_iload d_MO_span_174 rfl ?_
              exact w_topi (by rw [c164]; rfl) J176
            · have c164 := bI_t c164
              refine w_iload d_MO_span_167 rfl ?_
              refine w_iconst (v := nI 2) d_MO_span_169 (by decide) ?_
              refine w_iadd d_MO_span_170 ?_
              refine w_topi (y := nI (k + 2)) (nI_add _ _) ?_
              refine w_goto (tgt := 176) d_MO_span_171 rfl ?_
              exact w_topi (by rw [c164]; rfl) J176
          refine w_iconst (v := nI 1) d_MO_span_176 (by decide) ?_
          refine w_zast d_MO_span_177 k5_4 (vp_in_nI (by split; (· have := tM_len (by assumption : tM (EE r) (SS r) t k 2 = true); omega); (· omega)) (by decide)) ?_
          refine w_nm (fun h5 e5 => ?_)
          have hx3_5 := wS_ne e5 (by omega) hx3_4
          have k5_5 := wS_eq e5 k5_4
          refine w_aload_n d_MO_span_178 rfl rfl ?_
          refine w_get d_MO_span_179 f_MO_39 hx3_5 rfl ?_
          refine w_iload d_MO_span_182 rfl ?_
          suffices J196 : WP X M_MO_span (wR 2 0 0) 0 EN 0 0 196 [some (.ref 57), some (.int (nI r)), some (.int (nI f0)), some (.int (nI 1)), some (.int (nI k)), some (.int (nI k)), some (.int (bI (tM (EE r) (SS r) t k 1))), some (.int (bI (tM (EE r) (SS r) t k 2))), some (.int (bI (tM (EE r) (SS r) t k 3)))] [.int (nI (if tM (EE r) (SS r) t k 3 = true then k + 3 else k)), .ref 67] h5 by
            refine w_if_eq (tgt := 194) d_MO_span_184 rfl (fun c184 => ?_) (fun c184 => ?_)
            · have c184 := bI_f c184
              refine w_iload d_MO_span_194 rfl ?_
              exact w_topi (by rw [c184]; rfl) J196
            · have c184 := bI_t c184
              refine w_iload d_MO_span_187 rfl ?_
              refine w_iconst (v := nI 3) d_MO_span_189 (by decide) ?_
              refine w_iadd d_MO_span_190 ?_
              refine w_topi (y := nI (k + 3)) (nI_add _ _) ?_
              refine w_goto (tgt := 196) d_MO_span_191 rfl ?_
              exact w_topi (by rw [c184]; rfl) J196
          refine w_iconst (v := nI 1) d_MO_span_196 (by decide) ?_
          refine w_zast d_MO_span_197 k5_5 (vp_in_nI (by split; (· have := tM_len (by assumption : tM (EE r) (SS r) t k 3 = true); omega); (· omega)) (by decide)) ?_
          refine w_nm (fun h6 e6 => ?_)
          have hx3_6 := wS_ne e6 (by omega) hx3_5
          have k5_6 := wS_eq e6 k5_5
          refine w_iinc (v := nI (k + 1)) d_MO_span_198 rfl (nI_1 _) (by decide) ?_
          refine w_pl (pl' := [some (.ref 57), some (.int (nI r)), some (.int (nI f0)), some (.int (nI 1)), some (.int (nI k)), some (.int (nI (k + 1))), some (.int (bI (tM (EE r) (SS r) t k 1))), some (.int (bI (tM (EE r) (SS r) t k 2))), some (.int (bI (tM (EE r) (SS r) t k 3)))]) rfl ?_
          refine w_goto (tgt := 63) d_MO_span_201 rfl ?_
          refine w_le (pl' := [some (.ref 57), some (.int (nI r)), some (.int (nI f0)), some (.int (nI 1)), some (.int (nI k)), some (.int (nI (k + 1))), none, none, none]) ⟨rfl, rfl, rfl, rfl, rfl, rfl, trivial⟩ ?_
          refine ih (k + 1) k _ _ h6 (by omega) (by omega) (fun j hj => by rw [wS_off e6 (by omega), wS_off e5 (by omega), wS_off e4 (by omega), k4 j hj]) k5_6 (fun j hj => ?_) k7
          rw [nI_clamp (by split; (· have := tM_len (by assumption : tM (EE r) (SS r) t k 1 = true); omega); (· omega)), nI_clamp (by split; (· have := tM_len (by assumption : tM (EE r) (SS r) t k 2 = true); omega); (· omega)), nI_clamp (by split; (· have := tM_len (by assumption : tM (EE r) (SS r) t k 3 = true); omega); (· omega))]
          rw [show vp_nar .boolean (nI 1) = nI 1 from by decide]
          refine bI_up (R := fun j => R j || (tM (EE r) (SS r) t k 1 && decide (j = k + 1)) || (tM (EE r) (SS r) t k 2 && decide (j = k + 2))) (by show (R k || _ || _) = true; rw [c131]; rfl) (bI_up (R := fun j => R j || (tM (EE r) (SS r) t k 1 && decide (j = k + 1))) (by show (R k || _) = true; rw [c131]; rfl) (bI_up c131 (k6 j hj)))
  have L0 : ∀ (n : Nat) (k : Nat) (rf : Nat → Int32) (h3 : wH), (t.length + 1 - k < n) → (k ≤ t.length + 1) → (wOff h h3 67 1) → (h3[67]? = some (.inl (2, 61, .inl rf))) → (∀ j, j < k → rf j = bI (decide (j = f0))) → WP X M_MO_span (wR 2 0 0) 0 EN 0 0 24 [some (.ref 57), some (.int (nI r)), some (.int (nI f0)), some (.int (nI 1)), some (.int (nI k)), none, none, none, none] [] h3 := by
    intro n
    induction n with
    | zero => intro k rf h3 k1 k2 k4 k5 k6; omega
    | succ n ih =>
      intro k rf h3 k1 k2 k4 k5 k6
      have hx3 := (k4 57 (by omega)).trans hx
      refine w_iload d_MO_span_24 rfl ?_
      refine w_aload_n d_MO_span_26 rfl rfl ?_
      refine w_get d_MO_span_27 f_MO_43 hx3 rfl ?_
      refine w_icmp_gt (tgt := 57) d_MO_span_30 rfl (fun c30 => ?_) (fun c30 => ?_)
      · have c30 := (nI_ltI (a := t.length) (b := k) (by omega) (by omega)).mp c30
        refine w_iload_n d_MO_span_57 rfl ?_
        refine w_istore d_MO_span_58 (by decide) ?_
        refine w_pl (pl' := [some (.ref 57), some (.int (nI r)), some (.int (nI f0)), some (.int (nI 1)), some (.int (nI f0)), none, none, none, none]) rfl ?_
        refine w_iload_n d_MO_span_60 rfl ?_
        refine w_istore d_MO_span_61 (by decide) ?_
        refine w_pl (pl' := [some (.ref 57), some (.int (nI r)), some (.int (nI f0)), some (.int (nI 1)), some (.int (nI f0)), some (.int (nI f0)), none, none, none]) rfl ?_
        exact L (t.length + 2) f0 f0 (fun j => decide (j = f0)) rf h3 (by omega) (by omega) k4 k5 (fun j hj => k6 j (by omega)) hres.symm
      · have c30 : k ≤ t.length := Nat.not_lt.mp (fun z => c30 ((nI_ltI (a := t.length) (b := k) (by omega) (by omega)).mpr z))
        refine w_aload_n d_MO_span_33 rfl rfl ?_
        refine w_get d_MO_span_34 f_MO_39 hx3 rfl ?_
        refine w_iload d_MO_span_37 rfl ?_
        refine w_iload d_MO_span_39 rfl ?_
        refine w_iload_n d_MO_span_41 rfl ?_
        suffices J50 : WP X M_MO_span (wR 2 0 0) 0 EN 0 0 50 [some (.ref 57), some (.int (nI r)), some (.int (nI f0)), some (.int (nI 1)), some (.int (nI k)), none, none, none, none] [.int (bI (decide (k = f0))), .int (nI k), .ref 67] h3 by
          refine w_icmp_ne (tgt := 49) d_MO_span_42 rfl (fun c42 => ?_) (fun c42 => ?_)
          · have c42 : ¬ k = f0 := fun z => c42 (by rw [z])
            refine w_iconst (v := nI 0) d_MO_span_49 (by decide) ?_
            exact w_topi (by rw [decide_eq_false c42]; rfl) J50
          · have c42 : k = f0 := (nI_eq (by omega) (by omega)).mp c42
            refine w_iconst (v := nI 1) d_MO_span_45 (by decide) ?_
            refine w_goto (tgt := 50) d_MO_span_46 rfl ?_
            exact w_topi (by rw [decide_eq_true c42]; rfl) J50
        refine w_zast d_MO_span_50 k5 (vp_in_nI (by omega) (by decide)) ?_
        refine w_nm (fun h7 e7 => ?_)
        have hx3_7 := wS_ne e7 (by omega) hx3
        have k5_7 := wS_eq e7 k5
        refine w_iinc (v := nI (k + 1)) d_MO_span_51 rfl (nI_1 _) (by decide) ?_
        refine w_pl (pl' := [some (.ref 57), some (.int (nI r)), some (.int (nI f0)), some (.int (nI 1)), some (.int (nI (k + 1))), none, none, none, none]) rfl ?_
        refine w_goto (tgt := 24) d_MO_span_54 rfl ?_
        refine ih (k + 1) _ h7 (by omega) (by omega) (fun j hj => by rw [wS_off e7 (by omega), k4 j hj]) k5_7 (fun j hj => ?_)
        rw [nI_clamp (by omega), bI_vn]
        by_cases hjk : j = k
        · subst hjk; exact upd_eq
        · rw [upd_ne hjk]; exact k6 j (by omega)
  refine w_iload_n d_MO_span_0 rfl ?_
  refine w_callS (as := [.int (nI r)]) (st := []) d_MO_span_1 yM_MO_register l_MO_196 sM_MO_register rfl rfl (m_MO_regG (r := r) hr) (by decide) (by decide) (by decide) (by decide) (Nat.le_of_ble_eq_true rfl) ?_
  rintro _ h9_8 ⟨rfl, e9_8⟩
  rw [e9_8]
  refine w_eq (st' := [.int (nI 1)]) rfl ?_
  refine w_if_eq (tgt := 19) d_MO_span_4 rfl (fun z => absurd z (by decide)) (fun _ => ?_)
  refine w_iload_n d_MO_span_7 rfl ?_
  refine w_if_lt (tgt := 19) d_MO_span_8 rfl (fun z => absurd z (nI_pos (by omega))) (fun _ => ?_)
  refine w_iload_n d_MO_span_11 rfl ?_
  refine w_aload_n d_MO_span_12 rfl rfl ?_
  refine w_get d_MO_span_13 f_MO_43 hx rfl ?_
  refine w_icmp_le (tgt := 21) d_MO_span_16 rfl (fun _ => ?_) (fun z => absurd (nI_le hf (by omega)) z)
  refine w_iconst (v := nI 0) d_MO_span_21 (by decide) ?_
  refine w_istore d_MO_span_22 (by decide) ?_
  refine w_pl (pl' := [some (.ref 57), some (.int (nI r)), some (.int (nI f0)), some (.int (nI 1)), some (.int (nI 0)), none, none, none, none]) rfl ?_
  exact L0 (t.length + 2) 0 f67 h (by omega) (Nat.zero_le _) wOff.rf h67 (fun j hj => by omega)
set_option maxHeartbeats 4000000 in
set_option maxRecDepth 100000 in
theorem m_MO_span0 {h : wH} {t : List Nat} {EE SS : Nat → List Nat} (hm : hMO h t EE SS) (hk : mOk t EE SS) {r f0 : Nat} (hr : r < 3) (hf : f0 ≤ t.length) : PM X M_MO_span 2 0 0 [.ref 57, .int (nI r), .int (nI f0), .int (nI 0)] h (fun z h' => z = some (.int (nI (sB0 (EE r) (SS r) t (t.length - f0) f0))) ∧ hMO h' t EE SS ∧ wOff h h' 57 11) := by
  have hm0 := hm; obtain ⟨⟨ap, gd, dp, wr, fi, hx⟩, htx, hE, hA⟩ := hm
  obtain ⟨ef, cf, sf, nf, ha, hb, hc, hd, hs⟩ := id hE
  obtain ⟨tf, tp, t60, thf⟩ := id htx
  obtain ⟨⟨f63, h63⟩, ⟨f64, h64⟩, ⟨f65, h65⟩, ⟨f66, h66⟩, ⟨f67, h67⟩⟩ := id hA
  obtain ⟨s1, s2, s3, s4, s5, s6⟩ := hs r (by omega)
  obtain ⟨r1, r2, r3, r4⟩ := hk.2.1 r hr
  have e31 : ∀ y ∈ EE r, y < 2 ^ 31 := fun y hy => by have := r1.2 y hy; omega
  obtain ⟨res, hres⟩ : ∃ res, res = sB0 (EE r) (SS r) t (t.length - f0) f0 := ⟨_, rfl⟩
  rw [← hres]
  refine PM.at (pl := [some (.ref 57), some (.int (nI r)), some (.int (nI f0)), some (.int (nI 0)), none, none, none, none, none]) rfl rfl (by simp [wle, wen]) ?_
  generalize hEN : wEm X 0 0 _ = EN
  have L : ∀ (n : Nat) (k e : Nat) (rf : Nat → Int32) (h3 : wH), (t.length + 1 - k < n) → (k ≤ t.length + 1) → (wOff h h3 67 1) → (h3[67]? = some (.inl (2, 61, .inl rf))) → (sB0 (EE r) (SS r) t (t.length - k) k = res) → WP X M_MO_span (wR 2 0 0) 0 EN 0 0 63 [some (.ref 57), some (.int (nI r)), some (.int (nI f0)), some (.int (nI 0)), some (.int (nI e)), some (.int (nI k)), none, none, none] [] h3 := by
    intro n
    induction n with
    | zero => intro k e rf h3 k1 k2 k4 k5 k7; omega
    | succ n ih =>
      intro k e rf h3 k1 k2 k4 k5 k7
      have hx3 := (k4 57 (by omega)).trans hx
      have hm3 : hMO h3 t EE SS := ⟨⟨_, _, _, _, _, hx3⟩, htx.off k4 (by omega), hE.off k4 (by omega), ⟨⟨f63, (k4 _ (by omega)).trans h63⟩, ⟨f64, (k4 _ (by omega)).trans h64⟩, ⟨f65, (k4 _ (by omega)).trans h65⟩, ⟨f66, (k4 _ (by omega)).trans h66⟩, ⟨rf, k5⟩⟩⟩
      refine w_iload d_MO_span_63 rfl ?_
      refine w_aload_n d_MO_span_65 rfl rfl ?_
      refine w_get d_MO_span_66 f_MO_43 hx3 rfl ?_
      refine w_icmp_gt (tgt := 204) d_MO_span_69 rfl (fun c69 => ?_) (fun c69 => ?_)
      · have c69 := (nI_ltI (a := t.length) (b := k) (by omega) (by omega)).mp c69
        refine w_iload_n d_MO_span_204 rfl ?_
        refine w_if_eq (tgt := 213) d_MO_span_205 rfl (fun _ => ?_) (fun z => absurd (by decide) z)
        refine w_aload_n d_MO_span_213 rfl rfl ?_
        refine w_get d_MO_span_214 f_MO_43 hx3 rfl ?_
        rw [← hEN]
        refine w_iret d_MO_span_217 rfl ?_
        rw [show t.length - k = 0 by omega] at k7
        unfold sB0 at k7
        rw [← k7]
        exact ⟨rfl, hm3, k4.wide (by omega) (by omega)⟩
      · have c69 : k ≤ t.length := Nat.not_lt.mp (fun z => c69 ((nI_ltI (a := t.length) (b := k) (by omega) (by omega)).mpr z))
        refine w_aload_n d_MO_span_72 rfl rfl ?_
        refine w_iload_n d_MO_span_73 rfl ?_
        refine w_iload d_MO_span_74 rfl ?_
        refine w_iconst (v := nI 1) d_MO_span_76 (by decide) ?_
        refine w_callV (as := [.int (nI r), .int (nI k), .int (nI 1)]) (st := []) d_MO_span_77 yM_MO_begins l_MO_231 vM_MO_begins hx3 rfl rfl rfl rfl (m_MO_begins hm3 hk (n := 1) hr (by decide) (by decide) (by omega)) (by decide) (by decide) (by decide) (by decide) (Nat.le_of_ble_eq_true rfl) ?_
        rintro _ h9_1 ⟨rfl, e9_1⟩
        rw [e9_1]
        refine w_eq (st' := [.int (bI (tM (EE r) (SS r) t k 1))]) rfl ?_
        refine w_istore d_MO_span_80 (by decide) ?_
        refine w_pl (pl' := [some (.ref 57), some (.int (nI r)), some (.int (nI f0)), some (.int (nI 0)), some (.int (nI e)), some (.int (nI k)), some (.int (bI (tM (EE r) (SS r) t k 1))), none, none]) rfl ?_
        refine w_aload_n d_MO_span_82 rfl rfl ?_
        refine w_iload_n d_MO_span_83 rfl ?_
        refine w_iload d_MO_span_84 rfl ?_
        refine w_iconst (v := nI 2) d_MO_span_86 (by decide) ?_
        refine w_callV (as := [.int (nI r), .int (nI k), .int (nI 2)]) (st := []) d_MO_span_87 yM_MO_begins l_MO_231 vM_MO_begins hx3 rfl rfl rfl rfl (m_MO_begins hm3 hk (n := 2) hr (by decide) (by decide) (by omega)) (by decide) (by decide) (by decide) (by decide) (Nat.le_of_ble_eq_true rfl) ?_
        rintro _ h9_2 ⟨rfl, e9_2⟩
        rw [e9_2]
        refine w_eq (st' := [.int (bI (tM (EE r) (SS r) t k 2))]) rfl ?_
        refine w_istore d_MO_span_90 (by decide) ?_
        refine w_pl (pl' := [some (.ref 57), some (.int (nI r)), some (.int (nI f0)), some (.int (nI 0)), some (.int (nI e)), some (.int (nI k)), some (.int (bI (tM (EE r) (SS r) t k 1))), some (.int (bI (tM (EE r) (SS r) t k 2))), none]) rfl ?_
        refine w_aload_n d_MO_span_92 rfl rfl ?_
        refine w_iload_n d_MO_span_93 rfl ?_
        refine w_iload d_MO_span_94 rfl ?_
        refine w_iconst (v := nI 3) d_MO_span_96 (by decide) ?_
        refine w_callV (as := [.int (nI r), .int (nI k), .int (nI 3)]) (st := []) d_MO_span_97 yM_MO_begins l_MO_231 vM_MO_begins hx3 rfl rfl rfl rfl (m_MO_begins hm3 hk (n := 3) hr (by decide) (by decide) (by omega)) (by decide) (by decide) (by decide) (by decide) (Nat.le_of_ble_eq_true rfl) ?_
        rintro _ h9_3 ⟨rfl, e9_3⟩
        rw [e9_3]
        refine w_eq (st' := [.int (bI (tM (EE r) (SS r) t k 3))]) rfl ?_
        refine w_istore d_MO_span_100 (by decide) ?_
        refine w_pl (pl' := [some (.ref 57), some (.int (nI r)), some (.int (nI f0)), some (.int (nI 0)), some (.int (nI e)), some (.int (nI k)), some (.int (bI (tM (EE r) (SS r) t k 1))), some (.int (bI (tM (EE r) (SS r) t k 2))), some (.int (bI (tM (EE r) (SS r) t k 3)))]) rfl ?_
        refine w_iload_n d_MO_span_102 rfl ?_
        refine w_if_ne (tgt := 124) d_MO_span_103 rfl (fun z => absurd (by decide) z) (fun _ => ?_)
        refine w_iload d_MO_span_106 rfl ?_
        refine w_if_ne (tgt := 121) d_MO_span_108 rfl (fun c108 => ?_) (fun c108 => ?_)
        · have c108 := bI_t c108
          refine w_iload d_MO_span_121 rfl ?_
          rw [← hEN]
          refine w_iret d_MO_span_123 rfl ?_
          have hlt : k < t.length := by
            first
            | (have := tM_len c108; omega)
            | (have := tM_len c113; omega)
            | (have := tM_len c118; omega)
          rw [show t.length - k = (t.length - (k + 1)) + 1 by omega] at k7
          unfold sB0 at k7
          rw [if_pos (by first | (rw [c108]; simp; done) | (rw [c113]; simp; done) | (rw [c118]; simp; done))] at k7
          rw [← k7]
          exact ⟨rfl, hm3, k4.wide (by omega) (by omega)⟩
        · have c108 := bI_f c108
          refine w_iload d_MO_span_111 rfl ?_
          refine w_if_ne (tgt := 121) d_MO_span_113 rfl (fun c113 => ?_) (fun c113 => ?_)
          · have c113 := bI_t c113
            refine w_iload d_MO_span_121 rfl ?_
            rw [← hEN]
            refine w_iret d_MO_span_123 rfl ?_
            have hlt : k < t.length := by
              first
              | (have := tM_len c108; omega)
              | (have := tM_len c113; omega)
              | (have := tM_len c118; omega)
            rw [show t.length - k = (t.length - (k + 1)) + 1 by omega] at k7
            unfold sB0 at k7
            rw [if_pos (by first | (rw [c108]; simp; done) | (rw [c113]; simp; done) | (rw [c118]; simp; done))] at k7
            rw [← k7]
            exact ⟨rfl, hm3, k4.wide (by omega) (by omega)⟩
          · have c113 := bI_f c113
            refine w_iload d_MO_span_116 rfl ?_
            refine w_if_eq (tgt := 124) d_MO_span_118 rfl (fun c118 => ?_) (fun c118 => ?_)
            · have c118 := bI_f c118
              refine w_aload_n d_MO_span_124 rfl rfl ?_
              refine w_get d_MO_span_125 f_MO_39 hx3 rfl ?_
              refine w_iload d_MO_span_128 rfl ?_
              refine w_zald d_MO_span_130 k5 (vp_in_nI (by omega) (by decide)) ?_
              refine w_topi (y := rf k) (by rw [nI_clamp (by omega)]) ?_
              refine w_if_eq (tgt := 198) d_MO_span_131 rfl (fun c131 => ?_) (fun c131 => ?_)
              · refine w_iinc (v := nI (k + 1)) d_MO_span_198 rfl (nI_1 _) (by decide) ?_
                refine w_pl (pl' := [some (.ref 57), some (.int (nI r)), some (.int (nI f0)), some (.int (nI 0)), some (.int (nI e)), some (.int (nI (k + 1))), some (.int (bI (tM (EE r) (SS r) t k 1))), some (.int (bI (tM (EE r) (SS r) t k 2))), some (.int (bI (tM (EE r) (SS r) t k 3)))]) rfl ?_
                refine w_goto (tgt := 63) d_MO_span_201 rfl ?_
                have k8 : sB0 (EE r) (SS r) t (t.length - (k + 1)) (k + 1) = res := by
                  by_cases hlt : k < t.length
                  · rw [show t.length - k = (t.length - (k + 1)) + 1 by omega] at k7
                    unfold sB0 at k7
                    rw [if_neg (by rw [c108, c113, c118]; decide)] at k7
                    exact k7
                  · rw [show t.length - k = 0 by omega] at k7
                    rw [show t.length - (k + 1) = 0 by omega]
                    exact k7
                refine w_le (pl' := [some (.ref 57), some (.int (nI r)), some (.int (nI f0)), some (.int (nI 0)), some (.int (nI e)), some (.int (nI (k + 1))), none, none, none]) ⟨rfl, rfl, rfl, rfl, rfl, rfl, trivial⟩ ?_
                exact ih (k + 1) e rf h3 (by omega) (by omega) k4 k5 k8
              · refine w_iload d_MO_span_134 rfl ?_
                refine w_istore d_MO_span_136 (by decide) ?_
                refine w_pl (pl' := [some (.ref 57), some (.int (nI r)), some (.int (nI f0)), some (.int (nI 0)), some (.int (nI k)), some (.int (nI k)), some (.int (bI (tM (EE r) (SS r) t k 1))), some (.int (bI (tM (EE r) (SS r) t k 2))), some (.int (bI (tM (EE r) (SS r) t k 3)))]) rfl ?_
                refine w_aload_n d_MO_span_138 rfl rfl ?_
                refine w_get d_MO_span_139 f_MO_39 hx3 rfl ?_
                refine w_iload d_MO_span_142 rfl ?_
                suffices J156 : WP X M_MO_span (wR 2 0 0) 0 EN 0 0 156 [some (.ref 57), some (.int (nI r)), some (.int (nI f0)), some (.int (nI 0)), some (.int (nI k)), some (.int (nI k)), some (.int (bI (tM (EE r) (SS r) t k 1))), some (.int (bI (tM (EE r) (SS r) t k 2))), some (.int (bI (tM (EE r) (SS r) t k 3)))] [.int (nI (if tM (EE r) (SS r) t k 1 = true then k + 1 else k)), .ref 67] h3 by
                  refine w_if_eq (tgt := 154) d_MO_span_144 rfl (fun c144 => ?_) (fun c144 => ?_)
                  · have c144 := bI_f c144
                    refine w_iload d_MO_span_154 rfl ?_
                    exact w_topi (by rw [c144]; rfl) J156
                  · have c144 := bI_t c144
                    refine w_iload d_MO_span_147 rfl ?_
                    refine w_iconst (v := nI 1) d_MO_span_149 (by decide) ?_
                    refine w_iadd d_MO_span_150 ?_
                    refine w_topi (y := nI (k + 1)) (nI_add _ _) ?_
                    refine w_goto (tgt := 156) d_MO_span_151 rfl ?_
                    exact w_topi (by rw [c144]; rfl) J156
                refine w_iconst (v := nI 1) d_MO_span_156 (by decide) ?_
                refine w_zast d_MO_span_157 k5 (vp_in_nI (by split; (· have := tM_len (by assumption : tM (EE r) (SS r) t k 1 = true); omega); (· omega)) (by decide)) ?_
                refine w_nm (fun h4 e4 => ?_)
                have hx3_4 := wS_ne e4 (by omega) hx3
                have k5_4 := wS_eq e4 k5
                refine w_aload_n d_MO_span_158 rfl rfl ?_
                refine w_get d_MO_span_159 f_MO_39 hx3_4 rfl ?_
                refine w_iload d_MO_span_162 rfl ?_
                suffices J176 : WP X M_MO_span (wR 2 0 0) 0 EN 0 0 176 [some (.ref 57), some (.int (nI r)), some (.int (nI f0)), some (.int (nI 0)), some (.int (nI k)), some (.int (nI k)), some (.int (bI (tM (EE r) (SS r) t k 1))), some (.int (bI (tM (EE r) (SS r) t k 2))), some (.int (bI (tM (EE r) (SS r) t k 3)))] [.int (nI (if tM (EE r) (SS r) t k 2 = true then k + 2 else k)), .ref 67] h4 by
                  refine w_if_eq (tgt := 174) d_MO_span_164 rfl (fun c164 => ?_) (fun c164 => ?_)
                  · have c164 := bI_f c164
                    refine w_iload d_MO_span_174 rfl ?_
                    exact w_topi (by rw [c164]; rfl) J176
                  · have c164 := bI_t c164
                    refine w_iload d_MO_span_167 rfl ?_
                    refine w_iconst (v := nI 2) d_MO_span_169 (by decide) ?_
                    refine w_iadd d_MO_span_170 ?_
                    refine w_topi (y := nI (k + 2)) (nI_add _ _) ?_
                    refine w_goto (tgt := 176) d_MO_span_171 rfl ?_
                    exact w_topi (by rw [c164]; rfl) J176
                refine w_iconst (v := nI 1) d_MO_span_176 (by decide) ?_
                refine w_zast d_MO_span_177 k5_4 (vp_in_nI (by split; (· have := tM_len (by assumption : tM (EE r) (SS r) t k 2 = true); omega); (· omega)) (by decide)) ?_
                refine w_nm (fun h5 e5 => ?_)
                have hx3_5 := wS_ne e5 (by omega) hx3_4
                have k5_5 := wS_eq e5 k5_4
                refine w_aload_n d_MO_span_178 rfl rfl ?_
                refine w_get d_MO_span_179 f_MO_39 hx3_5 rfl ?_
                refine w_iload d_MO_span_182 rfl ?_
                suffices J196 : WP X M_MO_span (wR 2 0 0) 0 EN 0 0 196 [some (.ref 57), some (.int (nI r)), some (.int (nI f0)), some (.int (nI 0)), some (.int (nI k)), some (.int (nI k)), some (.int (bI (tM (EE r) (SS r) t k 1))), some (.int (bI (tM (EE r) (SS r) t k 2))), some (.int (bI (tM (EE r) (SS r) t k 3)))] [.int (nI (if tM (EE r) (SS r) t k 3 = true then k + 3 else k)), .ref 67] h5 by
                  refine w_if_eq (tgt := 194) d_MO_span_184 rfl (fun c184 => ?_) (fun c184 => ?_)
                  · have c184 := bI_f c184
                    refine w_iload d_MO_span_194 rfl ?_
                    exact w_topi (by rw [c184]; rfl) J196
                  · have c184 := bI_t c184
                    refine w_iload d_MO_span_187 rfl ?_
                    refine w_iconst (v := nI 3) d_MO_span_189 (by decide) ?_
                    refine w_iadd d_MO_span_190 ?_
                    refine w_topi (y := nI (k + 3)) (nI_add _ _) ?_
                    refine w_goto (tgt := 196) d_MO_span_191 rfl ?_
                    exact w_topi (by rw [c184]; rfl) J196
                refine w_iconst (v := nI 1) d_MO_span_196 (by decide) ?_
                refine w_zast d_MO_span_197 k5_5 (vp_in_nI (by split; (· have := tM_len (by assumption : tM (EE r) (SS r) t k 3 = true); omega); (· omega)) (by decide)) ?_
                refine w_nm (fun h6 e6 => ?_)
                have hx3_6 := wS_ne e6 (by omega) hx3_5
                have k5_6 := wS_eq e6 k5_5
                refine w_iinc (v := nI (k + 1)) d_MO_span_198 rfl (nI_1 _) (by decide) ?_
                refine w_pl (pl' := [some (.ref 57), some (.int (nI r)), some (.int (nI f0)), some (.int (nI 0)), some (.int (nI k)), some (.int (nI (k + 1))), some (.int (bI (tM (EE r) (SS r) t k 1))), some (.int (bI (tM (EE r) (SS r) t k 2))), some (.int (bI (tM (EE r) (SS r) t k 3)))]) rfl ?_
                refine w_goto (tgt := 63) d_MO_span_201 rfl ?_
                have k8 : sB0 (EE r) (SS r) t (t.length - (k + 1)) (k + 1) = res := by
                  by_cases hlt : k < t.length
                  · rw [show t.length - k = (t.length - (k + 1)) + 1 by omega] at k7
                    unfold sB0 at k7
                    rw [if_neg (by rw [c108, c113, c118]; decide)] at k7
                    exact k7
                  · rw [show t.length - k = 0 by omega] at k7
                    rw [show t.length - (k + 1) = 0 by omega]
                    exact k7
                refine w_le (pl' := [some (.ref 57), some (.int (nI r)), some (.int (nI f0)), some (.int (nI 0)), some (.int (nI k)), some (.int (nI (k + 1))), none, none, none]) ⟨rfl, rfl, rfl, rfl, rfl, rfl, trivial⟩ ?_
                exact ih (k + 1) k _ h6 (by omega) (by omega) (fun j hj => by rw [wS_off e6 (by omega), wS_off e5 (by omega), wS_off e4 (by omega), k4 j hj]) k5_6 k8
            · have c118 := bI_t c118
              refine w_iload d_MO_span_121 rfl ?_
              rw [← hEN]
              refine w_iret d_MO_span_123 rfl ?_
              have hlt : k < t.length := by
                first
                | (have := tM_len c108; omega)
                | (have := tM_len c113; omega)
                | (have := tM_len c118; omega)
              rw [show t.length - k = (t.length - (k + 1)) + 1 by omega] at k7
              unfold sB0 at k7
              rw [if_pos (by first | (rw [c108]; simp; done) | (rw [c113]; simp; done) | (rw [c118]; simp; done))] at k7
              rw [← k7]
              exact ⟨rfl, hm3, k4.wide (by omega) (by omega)⟩
  have L0 : ∀ (n : Nat) (k : Nat) (rf : Nat → Int32) (h3 : wH), (t.length + 1 - k < n) → (k ≤ t.length + 1) → (wOff h h3 67 1) → (h3[67]? = some (.inl (2, 61, .inl rf))) → (∀ j, j < k → rf j = bI (decide (j = f0))) → WP X M_MO_span (wR 2 0 0) 0 EN 0 0 24 [some (.ref 57), some (.int (nI r)), some (.int (nI f0)), some (.int (nI 0)), some (.int (nI k)), none, none, none, none] [] h3 := by
    intro n
    induction n with
    | zero => intro k rf h3 k1 k2 k4 k5 k6; omega
    | succ n ih =>
      intro k rf h3 k1 k2 k4 k5 k6
      have hx3 := (k4 57 (by omega)).trans hx
      refine w_iload d_MO_span_24 rfl ?_
      refine w_aload_n d_MO_span_26 rfl rfl ?_
      refine w_get d_MO_span_27 f_MO_43 hx3 rfl ?_
      refine w_icmp_gt (tgt := 57) d_MO_span_30 rfl (fun c30 => ?_) (fun c30 => ?_)
      · have c30 := (nI_ltI (a := t.length) (b := k) (by omega) (by omega)).mp c30
        refine w_iload_n d_MO_span_57 rfl ?_
        refine w_istore d_MO_span_58 (by decide) ?_
        refine w_pl (pl' := [some (.ref 57), some (.int (nI r)), some (.int (nI f0)), some (.int (nI 0)), some (.int (nI f0)), none, none, none, none]) rfl ?_
        refine w_iload_n d_MO_span_60 rfl ?_
        refine w_istore d_MO_span_61 (by decide) ?_
        refine w_pl (pl' := [some (.ref 57), some (.int (nI r)), some (.int (nI f0)), some (.int (nI 0)), some (.int (nI f0)), some (.int (nI f0)), none, none, none]) rfl ?_
        exact L (t.length + 2) f0 f0 rf h3 (by omega) (by omega) k4 k5 hres.symm
      · have c30 : k ≤ t.length := Nat.not_lt.mp (fun z => c30 ((nI_ltI (a := t.length) (b := k) (by omega) (by omega)).mpr z))
        refine w_aload_n d_MO_span_33 rfl rfl ?_
        refine w_get d_MO_span_34 f_MO_39 hx3 rfl ?_
        refine w_iload d_MO_span_37 rfl ?_
        refine w_iload d_MO_span_39 rfl ?_
        refine w_iload_n d_MO_span_41 rfl ?_
        suffices J50 : WP X M_MO_span (wR 2 0 0) 0 EN 0 0 50 [some (.ref 57), some (.int (nI r)), some (.int (nI f0)), some (.int (nI 0)), some (.int (nI k)), none, none, none, none] [.int (bI (decide (k = f0))), .int (nI k), .ref 67] h3 by
          refine w_icmp_ne (tgt := 49) d_MO_span_42 rfl (fun c42 => ?_) (fun c42 => ?_)
          · have c42 : ¬ k = f0 := fun z => c42 (by rw [z])
            refine w_iconst (v := nI 0) d_MO_span_49 (by decide) ?_
            exact w_topi (by rw [decide_eq_false c42]; rfl) J50
          · have c42 : k = f0 := (nI_eq (by omega) (by omega)).mp c42
            refine w_iconst (v := nI 1) d_MO_span_45 (by decide) ?_
            refine w_goto (tgt := 50) d_MO_span_46 rfl ?_
            exact w_topi (by rw [decide_eq_true c42]; rfl) J50
        refine w_zast d_MO_span_50 k5 (vp_in_nI (by omega) (by decide)) ?_
        refine w_nm (fun h7 e7 => ?_)
        have hx3_7 := wS_ne e7 (by omega) hx3
        have k5_7 := wS_eq e7 k5
        refine w_iinc (v := nI (k + 1)) d_MO_span_51 rfl (nI_1 _) (by decide) ?_
        refine w_pl (pl' := [some (.ref 57), some (.int (nI r)), some (.int (nI f0)), some (.int (nI 0)), some (.int (nI (k + 1))), none, none, none, none]) rfl ?_
        refine w_goto (tgt := 24) d_MO_span_54 rfl ?_
        refine ih (k + 1) _ h7 (by omega) (by omega) (fun j hj => by rw [wS_off e7 (by omega), k4 j hj]) k5_7 (fun j hj => ?_)
        rw [nI_clamp (by omega), bI_vn]
        by_cases hjk : j = k
        · subst hjk; exact upd_eq
        · rw [upd_ne hjk]; exact k6 j (by omega)
  refine w_iload_n d_MO_span_0 rfl ?_
  refine w_callS (as := [.int (nI r)]) (st := []) d_MO_span_1 yM_MO_register l_MO_196 sM_MO_register rfl rfl (m_MO_regG (r := r) hr) (by decide) (by decide) (by decide) (by decide) (Nat.le_of_ble_eq_true rfl) ?_
  rintro _ h9_8 ⟨rfl, e9_8⟩
  rw [e9_8]
  refine w_eq (st' := [.int (nI 1)]) rfl ?_
  refine w_if_eq (tgt := 19) d_MO_span_4 rfl (fun z => absurd z (by decide)) (fun _ => ?_)
  refine w_iload_n d_MO_span_7 rfl ?_
  refine w_if_lt (tgt := 19) d_MO_span_8 rfl (fun z => absurd z (nI_pos (by omega))) (fun _ => ?_)
  refine w_iload_n d_MO_span_11 rfl ?_
  refine w_aload_n d_MO_span_12 rfl rfl ?_
  refine w_get d_MO_span_13 f_MO_43 hx rfl ?_
  refine w_icmp_le (tgt := 21) d_MO_span_16 rfl (fun _ => ?_) (fun z => absurd (nI_le hf (by omega)) z)
  refine w_iconst (v := nI 0) d_MO_span_21 (by decide) ?_
  refine w_istore d_MO_span_22 (by decide) ?_
  refine w_pl (pl' := [some (.ref 57), some (.int (nI r)), some (.int (nI f0)), some (.int (nI 0)), some (.int (nI 0)), none, none, none, none]) rfl ?_
  exact L0 (t.length + 2) 0 f67 h (by omega) (Nat.zero_le _) wOff.rf h67 (fun j hj => by omega)
set_option maxHeartbeats 4000000 in
set_option maxRecDepth 100000 in
theorem m_MO_spanB {h : wH} {t : List Nat} {EE SS : Nat → List Nat} (hm : hMO h t EE SS) {x y z9 : Int32} (hxr : ¬ (0 ≤ x ∧ x < nI 3)) : PM X M_MO_span 2 0 0 [.ref 57, .int (x), .int (y), .int (z9)] h (fun z h' => z = some (.int (-1)) ∧ h' = h) := by
  have hm0 := hm; obtain ⟨⟨ap, gd, dp, wr, fi, hx⟩, htx, hE, hA⟩ := hm
  refine PM.at (pl := [some (.ref 57), some (.int (x)), some (.int (y)), some (.int (z9)), none, none, none, none, none]) rfl rfl (by simp [wle, wen]) ?_
  generalize hEN : wEm X 0 0 _ = EN
  refine w_iload_n d_MO_span_0 rfl ?_
  refine w_callS (as := [.int (x)]) (st := []) d_MO_span_1 yM_MO_register l_MO_196 sM_MO_register rfl rfl (m_MO_regB (x := x) hxr) (by decide) (by decide) (by decide) (by decide) (Nat.le_of_ble_eq_true rfl) ?_
  rintro _ h9_1 ⟨rfl, e9_1⟩
  rw [e9_1]
  refine w_eq (st' := [.int (nI 0)]) rfl ?_
  refine w_if_eq (tgt := 19) d_MO_span_4 rfl (fun _ => ?_) (fun z => absurd (by decide) z)
  refine w_iconst (v := -1) d_MO_span_19 (by decide) ?_
  rw [← hEN]
  refine w_iret d_MO_span_20 rfl ?_
  exact ⟨rfl, rfl⟩
set_option maxHeartbeats 4000000 in
set_option maxRecDepth 100000 in
theorem m_MO_spanC {h : wH} {t : List Nat} {EE SS : Nat → List Nat} (hm : hMO h t EE SS) {r : Nat} {y z9 : Int32} (hr : r < 3) (hy : ¬ (0 ≤ y ∧ y ≤ nI t.length)) : PM X M_MO_span 2 0 0 [.ref 57, .int (nI r), .int (y), .int (z9)] h (fun z h' => z = some (.int (-1)) ∧ h' = h) := by
  have hm0 := hm; obtain ⟨⟨ap, gd, dp, wr, fi, hx⟩, htx, hE, hA⟩ := hm
  refine PM.at (pl := [some (.ref 57), some (.int (nI r)), some (.int (y)), some (.int (z9)), none, none, none, none, none]) rfl rfl (by simp [wle, wen]) ?_
  generalize hEN : wEm X 0 0 _ = EN
  refine w_iload_n d_MO_span_0 rfl ?_
  refine w_callS (as := [.int (nI r)]) (st := []) d_MO_span_1 yM_MO_register l_MO_196 sM_MO_register rfl rfl (m_MO_regG (r := r) hr) (by decide) (by decide) (by decide) (by decide) (Nat.le_of_ble_eq_true rfl) ?_
  rintro _ h9_1 ⟨rfl, e9_1⟩
  rw [e9_1]
  refine w_eq (st' := [.int (nI 1)]) rfl ?_
  refine w_if_eq (tgt := 19) d_MO_span_4 rfl (fun z => absurd z (by decide)) (fun _ => ?_)
  refine w_iload_n d_MO_span_7 rfl ?_
  refine w_if_lt (tgt := 19) d_MO_span_8 rfl (fun c8 => ?_) (fun c8 => ?_)
  · refine w_iconst (v := -1) d_MO_span_19 (by decide) ?_
    rw [← hEN]
    refine w_iret d_MO_span_20 rfl ?_
    exact ⟨rfl, rfl⟩
  · refine w_iload_n d_MO_span_11 rfl ?_
    refine w_aload_n d_MO_span_12 rfl rfl ?_
    refine w_get d_MO_span_13 f_MO_43 hx rfl ?_
    refine w_icmp_le (tgt := 21) d_MO_span_16 rfl (fun c16 => ?_) (fun c16 => ?_)
    · exact absurd ⟨Int32.not_lt.mp c8, c16⟩ hy
    · refine w_iconst (v := -1) d_MO_span_19 (by decide) ?_
      rw [← hEN]
      refine w_iret d_MO_span_20 rfl ?_
      exact ⟨rfl, rfl⟩
set_option maxHeartbeats 4000000 in
set_option maxRecDepth 100000 in
theorem m_MO_alike {h : wH} {sz ap gd dp wr fi : Int32} (hx : h[57]? = some (.inr (7, [.ref 58, .int (sz), .ref 59, .ref 60, .ref 61, .ref 62, .int (ap), .int (gd), .int (dp), .ref 63, .ref 64, .ref 65, .ref 66, .int (wr), .int (fi), .ref 67]))) {EE SS : Nat → List Nat} (hE : mE h EE SS) {r c d : Nat} (hr : r < 3) (hcd : c < 1114112) (hd9 : d < 1114112) (r1 : eOk (EE r)) (r3 : eOk (EE 3)) (hl3 : (EE 3).length ≤ 418) (hs3 : ∀ y ∈ SS 3, sOk y) (hsub : ∀ x, eMem (EE r) x = true → eMem (EE 3) x = true) : PM X M_MO_alike 4 0 0 [.ref 57, .int (nI r), .int (nI c), .int (nI d)] h (fun z h' => z = none ∧ wOff h h' 59 4 ∧ ∃ EE' SS' : Nat → List Nat, mE h' EE' SS' ∧ eOk (EE' 3) ∧ (EE' 3).length ≤ (EE 3).length + 2 ∧ SS' 3 = SS 3 ∧ (∀ x, eMem (EE' 3) x = (eMem (EE 3) x || alQ (EE r) c d x)) ∧ ∀ j, (j < 3 ∨ j = 11) → EE' j = EE j ∧ SS' j = SS j) := by
  have e31 : ∀ y ∈ EE r, y < 2 ^ 31 := fun y hy => by have := r1.2 y hy; omega
  refine PM.at (pl := [some (.ref 57), some (.int (nI r)), some (.int (nI c)), some (.int (nI d)), none, none, none]) rfl rfl (by simp [wle, wen]) ?_
  generalize hEN : wEm X 0 0 _ = EN
  refine w_aload_n d_MO_alike_0 rfl rfl ?_
  refine w_iload_n d_MO_alike_1 rfl ?_
  refine w_iload_n d_MO_alike_2 rfl ?_
  refine w_callV (as := [.int (nI r), .int (nI c)]) (st := []) d_MO_alike_3 yM_MO_member l_MO_56 vM_MO_member hx rfl rfl rfl rfl (m_MO_member hx hE (t := r) (by omega) (by omega) e31) (by decide) (by decide) (by decide) (by decide) (Nat.le_of_ble_eq_true rfl) ?_
  rintro _ h9_1 ⟨rfl, e9_1⟩
  rw [e9_1]
  refine w_eq (st' := [.int (bI (eMem (EE r) c))]) rfl ?_
  refine w_istore d_MO_alike_6 (by decide) ?_
  refine w_pl (pl' := [some (.ref 57), some (.int (nI r)), some (.int (nI c)), some (.int (nI d)), some (.int (bI (eMem (EE r) c))), none, none]) rfl ?_
  refine w_aload_n d_MO_alike_8 rfl rfl ?_
  refine w_iload_n d_MO_alike_9 rfl ?_
  refine w_iload_n d_MO_alike_10 rfl ?_
  refine w_callV (as := [.int (nI r), .int (nI d)]) (st := []) d_MO_alike_11 yM_MO_member l_MO_56 vM_MO_member hx rfl rfl rfl rfl (m_MO_member hx hE (t := r) (by omega) (by omega) e31) (by decide) (by decide) (by decide) (by decide) (Nat.le_of_ble_eq_true rfl) ?_
  rintro _ h9_2 ⟨rfl, e9_2⟩
  rw [e9_2]
  refine w_eq (st' := [.int (bI (eMem (EE r) d))]) rfl ?_
  refine w_istore d_MO_alike_14 (by decide) ?_
  refine w_pl (pl' := [some (.ref 57), some (.int (nI r)), some (.int (nI c)), some (.int (nI d)), some (.int (bI (eMem (EE r) c))), some (.int (bI (eMem (EE r) d))), none]) rfl ?_
  refine w_iload d_MO_alike_16 rfl ?_
  refine w_iload d_MO_alike_18 rfl ?_
  refine w_icmp_eq (tgt := 44) d_MO_alike_20 rfl (fun c20 => ?_) (fun c20 => ?_)
  · have c20 := (bI_eq _ _).mp c20
    rw [← hEN]
    refine w_vret d_MO_alike_44 rfl ?_
    first
    | (refine ⟨rfl, wOff.rf, EE, SS, hE, r3, by omega, rfl, fun x => ?_, fun j _ => ⟨rfl, rfl⟩⟩
       unfold alQ
       by_cases h1 : x = c
       · subst h1
         cases hz : eMem (EE r) d with
         | true => rw [hsub x (c20.trans hz)]; rfl
         | false => rw [c20, hz]; simp
       · by_cases h2 : x = d
         · subst h2
           cases hz : eMem (EE r) c with
           | true => rw [hsub x (c20.symm.trans hz)]; rfl
           | false => rw [← c20, hz]; simp
         · rw [decide_eq_false h1, decide_eq_false h2]; simp)
    | (refine ⟨rfl, ho1, EE1, SS1, hE1, by rw [q1]; exact eCmb_ok _ _ _, by rw [q1]; exact eCmb_len _ _ _, q2, fun x => ?_, fun j hj => q3 j (by omega) (by omega) (by omega)⟩
       rw [q1, eCmb_mem r3 (show eOk [m, m + 1] from (iOk_ran (Nat.le_refl m) hmm.1).1), eMem_ran (Nat.le_refl m), ← hmm.2 x]
       rw [show decide (m ≤ x ∧ x ≤ m) = decide (x = m) from decide_eq_decide.mpr ⟨fun z => by omega, fun z => by omega⟩]
       rfl)
  · have c20 : ¬ eMem (EE r) c = eMem (EE r) d := fun z => c20 ((bI_eq _ _).mpr z)
    refine w_iload d_MO_alike_23 rfl ?_
    suffices J33 : ∀ m : Nat, (m < 1114112 ∧ ∀ x, decide (x = m) = alQ (EE r) c d x) → WP X M_MO_alike (wR 4 0 0) 0 EN 0 0 33 [some (.ref 57), some (.int (nI r)), some (.int (nI c)), some (.int (nI d)), some (.int (bI (eMem (EE r) c))), some (.int (bI (eMem (EE r) d))), none] [.int (nI m)] h by
      refine w_if_eq (tgt := 32) d_MO_alike_25 rfl (fun c25 => ?_) (fun c25 => ?_)
      · have c25 := bI_f c25
        refine w_iload_n d_MO_alike_32 rfl ?_
        have hdd : eMem (EE r) d = true := by cases hz : eMem (EE r) d with | true => rfl | false => exact absurd (c25.trans hz.symm) c20
        exact J33 c ⟨hcd, fun x => by unfold alQ; rw [c25, hdd]; simp⟩
      · have c25 := bI_t c25
        refine w_iload_n d_MO_alike_28 rfl ?_
        refine w_goto (tgt := 33) d_MO_alike_29 rfl ?_
        have hdd : eMem (EE r) d = false := by cases hz : eMem (EE r) d with | false => rfl | true => exact absurd (c25.trans hz.symm) c20
        exact J33 d ⟨hd9, fun x => by unfold alQ; rw [c25, hdd]; simp⟩
    intro m hmm
    refine w_istore d_MO_alike_33 (by decide) ?_
    refine w_pl (pl' := [some (.ref 57), some (.int (nI r)), some (.int (nI c)), some (.int (nI d)), some (.int (bI (eMem (EE r) c))), some (.int (bI (eMem (EE r) d))), some (.int (nI m))]) rfl ?_
    refine w_aload_n d_MO_alike_35 rfl rfl ?_
    refine w_iconst (v := nI 3) d_MO_alike_36 (by decide) ?_
    refine w_iload d_MO_alike_37 rfl ?_
    refine w_iload d_MO_alike_39 rfl ?_
    refine w_callV (as := [.int (nI 3), .int (nI m), .int (nI m)]) (st := []) d_MO_alike_41 yM_MO_addRange l_MO_123 vM_MO_addRange hx rfl rfl rfl rfl (m_MO_addRange hx hE (t := 3) (by decide) (by decide) (by decide) (Nat.le_refl m) hmm.1 r3 hl3 hs3) (by decide) (by decide) (by decide) (by decide) (Nat.le_of_ble_eq_true rfl) ?_
    rintro _ h1_ ⟨rfl, ho1, EE1, SS1, hE1, q1, q2, q3⟩
    refine w_eq (st' := []) rfl ?_
    rw [← hEN]
    refine w_vret d_MO_alike_44 rfl ?_
    first
    | (refine ⟨rfl, wOff.rf, EE, SS, hE, r3, by omega, rfl, fun x => ?_, fun j _ => ⟨rfl, rfl⟩⟩
       unfold alQ
       by_cases h1 : x = c
       · subst h1
         cases hz : eMem (EE r) d with
         | true => rw [hsub x (c20.trans hz)]; rfl
         | false => rw [c20, hz]; simp
       · by_cases h2 : x = d
         · subst h2
           cases hz : eMem (EE r) c with
           | true => rw [hsub x (c20.symm.trans hz)]; rfl
           | false => rw [← c20, hz]; simp
         · rw [decide_eq_false h1, decide_eq_false h2]; simp)
    | (refine ⟨rfl, ho1, EE1, SS1, hE1, by rw [q1]; exact eCmb_ok _ _ _, by rw [q1]; exact eCmb_len _ _ _, q2, fun x => ?_, fun j hj => q3 j (by omega) (by omega) (by omega)⟩
       rw [q1, eCmb_mem r3 (show eOk [m, m + 1] from (iOk_ran (Nat.le_refl m) hmm.1).1), eMem_ran (Nat.le_refl m), ← hmm.2 x]
       rw [show decide (m ≤ x ∧ x ≤ m) = decide (x = m) from decide_eq_decide.mpr ⟨fun z => by omega, fun z => by omega⟩]
       rfl)
set_option maxHeartbeats 4000000 in
set_option maxRecDepth 100000 in
theorem m_MO_closeG {h : wH} {t : List Nat} {EE SS : Nat → List Nat} (hm : hMO h t EE SS) (hk : mOk t EE SS) {r : Nat} (hr : r < 3) : PM X M_MO_close 5 0 0 [.ref 57, .int (nI r)] h (fun z h' => ∃ C, eOk C ∧ (∀ x, eMem C x = (eMem (EE r) x || (casd x && alk (EE r) x))) ∧ z = some (.int (if C.length ≤ 200 then nI (eSize C) - nI (eSize (EE r)) else -1)) ∧ wOff h h' 57 11 ∧ ∃ EE' SS' : Nat → List Nat, hMO h' t EE' SS' ∧ EE' r = (if C.length ≤ 200 then C else EE r) ∧ SS' r = SS r ∧ ∀ j, j ≠ r → (j < 3 ∨ j = 11) → EE' j = EE j ∧ SS' j = SS j) := by
  have hm0 := hm; obtain ⟨⟨ap, gd, dp, wr, fi, hx⟩, htx, hE, hA⟩ := hm
  obtain ⟨ef, cf, sf, nf, ha, hb, hc, hd, hs⟩ := id hE
  obtain ⟨s1, s2, s3, s4, s5, s6⟩ := hs r (by omega)
  obtain ⟨r1, r2, r3, r4⟩ := hk.2.1 r hr
  have e31 : ∀ y ∈ EE r, y < 2 ^ 31 := fun y hy => by have := r1.2 y hy; omega
  refine PM.at (pl := [some (.ref 57), some (.int (nI r)), none]) rfl rfl (by simp [wle, wen]) ?_
  generalize hEN : wEm X 0 0 _ = EN
  have FIN : ∀ (EE0 SS0 : Nat → List Nat) (hh0 : wH), (mE hh0 EE0 SS0 ∧ wOff h hh0 59 4 ∧ eOk (EE0 3) ∧ (EE0 3).length ≤ 200 + 2 * (57) ∧ SS0 3 = SS r ∧ (∀ x, eMem (EE0 3) x = (eMem (EE r) x || clP (EE r) 223 x)) ∧ ∀ j, (j < 3 ∨ j = 11) → EE0 j = EE j ∧ SS0 j = SS j) → WP X M_MO_close (wR 5 0 0) 0 EN 0 0 61 [some (.ref 57), some (.int (nI r)), none] [] hh0 := by
    intro EE0 SS0 hh0 iv0
    have hx0c := (iv0.2.1 57 (by omega)).trans hx
    refine w_aload_n d_MO_close_61 rfl rfl ?_
    refine w_iload_n d_MO_close_62 rfl ?_
    refine w_bipush (v := nI 75) d_MO_close_63 (by decide) ?_
    refine w_sipush (v := nI 8490) d_MO_close_65 (by decide) ?_
    obtain ⟨i1, i2, i3, i4, i5, i6, i7⟩ := iv0
    have hxc := (i2 57 (by omega)).trans hx
    have er0 := (i7 r (by omega)).1
    refine w_callV (as := [.int (nI r), .int (nI 75), .int (nI 8490)]) (st := []) d_MO_close_68 yM_MO_alike l_MO_226 vM_MO_alike hxc rfl rfl rfl rfl (m_MO_alike hxc i1 (r := r) (c := 75) (d := 8490) hr (by decide) (by decide) (by rw [er0]; exact r1) i3 (by omega) (by rw [i5]; exact r3) (fun x hxx => by rw [er0] at hxx; rw [i6 x, hxx]; simp)) (by decide) (by decide) (by decide) (by decide) (Nat.le_of_ble_eq_true rfl) ?_
    rintro _ hh1 ⟨rfl, o8, EE1, SS1, j1, j2, j3, j4, j5, j6⟩
    refine w_eq (st' := []) rfl ?_
    have hx1c := (o8 57 (by omega)).trans hxc
    rw [er0] at j5
    have iv1 : mE hh1 EE1 SS1 ∧ wOff h hh1 59 4 ∧ eOk (EE1 3) ∧ (EE1 3).length ≤ 200 + 2 * (58) ∧ SS1 3 = SS r ∧ (∀ x, eMem (EE1 3) x = (eMem (EE r) x || clP (EE r) 223 x || alQ (EE r) 75 8490 x)) ∧ ∀ j, (j < 3 ∨ j = 11) → EE1 j = EE j ∧ SS1 j = SS j := ⟨j1, i2.tr o8, j2, by omega, j4.trans i5, fun x => by rw [j5 x, i6 x], fun j hj => ⟨(j6 j hj).1.trans (i7 j hj).1, (j6 j hj).2.trans (i7 j hj).2⟩⟩
    clear i1 i2 i3 i4 i5 i6 i7 j1 j2 j3 j4 j5 j6 o8 hxc
    refine w_aload_n d_MO_close_71 rfl rfl ?_
    refine w_iload_n d_MO_close_72 rfl ?_
    refine w_bipush (v := nI 107) d_MO_close_73 (by decide) ?_
    refine w_sipush (v := nI 8490) d_MO_close_75 (by decide) ?_
    obtain ⟨i1, i2, i3, i4, i5, i6, i7⟩ := iv1
    have hxc := (i2 57 (by omega)).trans hx
    have er1 := (i7 r (by omega)).1
    refine w_callV (as := [.int (nI r), .int (nI 107), .int (nI 8490)]) (st := []) d_MO_close_78 yM_MO_alike l_MO_226 vM_MO_alike hxc rfl rfl rfl rfl (m_MO_alike hxc i1 (r := r) (c := 107) (d := 8490) hr (by decide) (by decide) (by rw [er1]; exact r1) i3 (by omega) (by rw [i5]; exact r3) (fun x hxx => by rw [er1] at hxx; rw [i6 x, hxx]; simp)) (by decide) (by decide) (by decide) (by decide) (Nat.le_of_ble_eq_true rfl) ?_
    rintro _ hh2 ⟨rfl, o8, EE2, SS2, j1, j2, j3, j4, j5, j6⟩
    refine w_eq (st' := []) rfl ?_
    have hx2c := (o8 57 (by omega)).trans hxc
    rw [er1] at j5
    have iv2 : mE hh2 EE2 SS2 ∧ wOff h hh2 59 4 ∧ eOk (EE2 3) ∧ (EE2 3).length ≤ 200 + 2 * (59) ∧ SS2 3 = SS r ∧ (∀ x, eMem (EE2 3) x = (eMem (EE r) x || clP (EE r) 223 x || alQ (EE r) 75 8490 x || alQ (EE r) 107 8490 x)) ∧ ∀ j, (j < 3 ∨ j = 11) → EE2 j = EE j ∧ SS2 j = SS j := ⟨j1, i2.tr o8, j2, by omega, j4.trans i5, fun x => by rw [j5 x, i6 x], fun j hj => ⟨(j6 j hj).1.trans (i7 j hj).1, (j6 j hj).2.trans (i7 j hj).2⟩⟩
    clear i1 i2 i3 i4 i5 i6 i7 j1 j2 j3 j4 j5 j6 o8 hxc
    refine w_aload_n d_MO_close_81 rfl rfl ?_
    refine w_iload_n d_MO_close_82 rfl ?_
    refine w_bipush (v := nI 83) d_MO_close_83 (by decide) ?_
    refine w_sipush (v := nI 383) d_MO_close_85 (by decide) ?_
    obtain ⟨i1, i2, i3, i4, i5, i6, i7⟩ := iv2
    have hxc := (i2 57 (by omega)).trans hx
    have er2 := (i7 r (by omega)).1
    refine w_callV (as := [.int (nI r), .int (nI 83), .int (nI 383)]) (st := []) d_MO_close_88 yM_MO_alike l_MO_226 vM_MO_alike hxc rfl rfl rfl rfl (m_MO_alike hxc i1 (r := r) (c := 83) (d := 383) hr (by decide) (by decide) (by rw [er2]; exact r1) i3 (by omega) (by rw [i5]; exact r3) (fun x hxx => by rw [er2] at hxx; rw [i6 x, hxx]; simp)) (by decide) (by decide) (by decide) (by decide) (Nat.le_of_ble_eq_true rfl) ?_
    rintro _ hh3 ⟨rfl, o8, EE3, SS3, j1, j2, j3, j4, j5, j6⟩
    refine w_eq (st' := []) rfl ?_
    have hx3c := (o8 57 (by omega)).trans hxc
    rw [er2] at j5
    have iv3 : mE hh3 EE3 SS3 ∧ wOff h hh3 59 4 ∧ eOk (EE3 3) ∧ (EE3 3).length ≤ 200 + 2 * (60) ∧ SS3 3 = SS r ∧ (∀ x, eMem (EE3 3) x = (eMem (EE r) x || clP (EE r) 223 x || alQ (EE r) 75 8490 x || alQ (EE r) 107 8490 x || alQ (EE r) 83 383 x)) ∧ ∀ j, (j < 3 ∨ j = 11) → EE3 j = EE j ∧ SS3 j = SS j := ⟨j1, i2.tr o8, j2, by omega, j4.trans i5, fun x => by rw [j5 x, i6 x], fun j hj => ⟨(j6 j hj).1.trans (i7 j hj).1, (j6 j hj).2.trans (i7 j hj).2⟩⟩
    clear i1 i2 i3 i4 i5 i6 i7 j1 j2 j3 j4 j5 j6 o8 hxc
    refine w_aload_n d_MO_close_91 rfl rfl ?_
    refine w_iload_n d_MO_close_92 rfl ?_
    refine w_bipush (v := nI 115) d_MO_close_93 (by decide) ?_
    refine w_sipush (v := nI 383) d_MO_close_95 (by decide) ?_
    obtain ⟨i1, i2, i3, i4, i5, i6, i7⟩ := iv3
    have hxc := (i2 57 (by omega)).trans hx
    have er3 := (i7 r (by omega)).1
    refine w_callV (as := [.int (nI r), .int (nI 115), .int (nI 383)]) (st := []) d_MO_close_98 yM_MO_alike l_MO_226 vM_MO_alike hxc rfl rfl rfl rfl (m_MO_alike hxc i1 (r := r) (c := 115) (d := 383) hr (by decide) (by decide) (by rw [er3]; exact r1) i3 (by omega) (by rw [i5]; exact r3) (fun x hxx => by rw [er3] at hxx; rw [i6 x, hxx]; simp)) (by decide) (by decide) (by decide) (by decide) (Nat.le_of_ble_eq_true rfl) ?_
    rintro _ hh4 ⟨rfl, o8, EE4, SS4, j1, j2, j3, j4, j5, j6⟩
    refine w_eq (st' := []) rfl ?_
    have hx4c := (o8 57 (by omega)).trans hxc
    rw [er3] at j5
    have iv4 : mE hh4 EE4 SS4 ∧ wOff h hh4 59 4 ∧ eOk (EE4 3) ∧ (EE4 3).length ≤ 200 + 2 * (61) ∧ SS4 3 = SS r ∧ (∀ x, eMem (EE4 3) x = (eMem (EE r) x || clP (EE r) 223 x || alQ (EE r) 75 8490 x || alQ (EE r) 107 8490 x || alQ (EE r) 83 383 x || alQ (EE r) 115 383 x)) ∧ ∀ j, (j < 3 ∨ j = 11) → EE4 j = EE j ∧ SS4 j = SS j := ⟨j1, i2.tr o8, j2, by omega, j4.trans i5, fun x => by rw [j5 x, i6 x], fun j hj => ⟨(j6 j hj).1.trans (i7 j hj).1, (j6 j hj).2.trans (i7 j hj).2⟩⟩
    clear i1 i2 i3 i4 i5 i6 i7 j1 j2 j3 j4 j5 j6 o8 hxc
    refine w_aload_n d_MO_close_101 rfl rfl ?_
    refine w_iload_n d_MO_close_102 rfl ?_
    refine w_sipush (v := nI 197) d_MO_close_103 (by decide) ?_
    refine w_sipush (v := nI 8491) d_MO_close_106 (by decide) ?_
    obtain ⟨i1, i2, i3, i4, i5, i6, i7⟩ := iv4
    have hxc := (i2 57 (by omega)).trans hx
    have er4 := (i7 r (by omega)).1
    refine w_callV (as := [.int (nI r), .int (nI 197), .int (nI 8491)]) (st := []) d_MO_close_109 yM_MO_alike l_MO_226 vM_MO_alike hxc rfl rfl rfl rfl (m_MO_alike hxc i1 (r := r) (c := 197) (d := 8491) hr (by decide) (by decide) (by rw [er4]; exact r1) i3 (by omega) (by rw [i5]; exact r3) (fun x hxx => by rw [er4] at hxx; rw [i6 x, hxx]; simp)) (by decide) (by decide) (by decide) (by decide) (Nat.le_of_ble_eq_true rfl) ?_
    rintro _ hh5 ⟨rfl, o8, EE5, SS5, j1, j2, j3, j4, j5, j6⟩
    refine w_eq (st' := []) rfl ?_
    have hx5c := (o8 57 (by omega)).trans hxc
    rw [er4] at j5
    have iv5 : mE hh5 EE5 SS5 ∧ wOff h hh5 59 4 ∧ eOk (EE5 3) ∧ (EE5 3).length ≤ 200 + 2 * (62) ∧ SS5 3 = SS r ∧ (∀ x, eMem (EE5 3) x = (eMem (EE r) x || clP (EE r) 223 x || alQ (EE r) 75 8490 x || alQ (EE r) 107 8490 x || alQ (EE r) 83 383 x || alQ (EE r) 115 383 x || alQ (EE r) 197 8491 x)) ∧ ∀ j, (j < 3 ∨ j = 11) → EE5 j = EE j ∧ SS5 j = SS j := ⟨j1, i2.tr o8, j2, by omega, j4.trans i5, fun x => by rw [j5 x, i6 x], fun j hj => ⟨(j6 j hj).1.trans (i7 j hj).1, (j6 j hj).2.trans (i7 j hj).2⟩⟩
    clear i1 i2 i3 i4 i5 i6 i7 j1 j2 j3 j4 j5 j6 o8 hxc
    refine w_aload_n d_MO_close_112 rfl rfl ?_
    refine w_iload_n d_MO_close_113 rfl ?_
    refine w_sipush (v := nI 229) d_MO_close_114 (by decide) ?_
    refine w_sipush (v := nI 8491) d_MO_close_117 (by decide) ?_
    obtain ⟨i1, i2, i3, i4, i5, i6, i7⟩ := iv5
    have hxc := (i2 57 (by omega)).trans hx
    have er5 := (i7 r (by omega)).1
    refine w_callV (as := [.int (nI r), .int (nI 229), .int (nI 8491)]) (st := []) d_MO_close_120 yM_MO_alike l_MO_226 vM_MO_alike hxc rfl rfl rfl rfl (m_MO_alike hxc i1 (r := r) (c := 229) (d := 8491) hr (by decide) (by decide) (by rw [er5]; exact r1) i3 (by omega) (by rw [i5]; exact r3) (fun x hxx => by rw [er5] at hxx; rw [i6 x, hxx]; simp)) (by decide) (by decide) (by decide) (by decide) (Nat.le_of_ble_eq_true rfl) ?_
    rintro _ hh6 ⟨rfl, o8, EE6, SS6, j1, j2, j3, j4, j5, j6⟩
    refine w_eq (st' := []) rfl ?_
    have hx6c := (o8 57 (by omega)).trans hxc
    rw [er5] at j5
    have iv6 : mE hh6 EE6 SS6 ∧ wOff h hh6 59 4 ∧ eOk (EE6 3) ∧ (EE6 3).length ≤ 200 + 2 * (63) ∧ SS6 3 = SS r ∧ (∀ x, eMem (EE6 3) x = (eMem (EE r) x || clP (EE r) 223 x || alQ (EE r) 75 8490 x || alQ (EE r) 107 8490 x || alQ (EE r) 83 383 x || alQ (EE r) 115 383 x || alQ (EE r) 197 8491 x || alQ (EE r) 229 8491 x)) ∧ ∀ j, (j < 3 ∨ j = 11) → EE6 j = EE j ∧ SS6 j = SS j := ⟨j1, i2.tr o8, j2, by omega, j4.trans i5, fun x => by rw [j5 x, i6 x], fun j hj => ⟨(j6 j hj).1.trans (i7 j hj).1, (j6 j hj).2.trans (i7 j hj).2⟩⟩
    clear i1 i2 i3 i4 i5 i6 i7 j1 j2 j3 j4 j5 j6 o8 hxc
    refine w_aload_n d_MO_close_123 rfl rfl ?_
    refine w_iload_n d_MO_close_124 rfl ?_
    refine w_sipush (v := nI 931) d_MO_close_125 (by decide) ?_
    refine w_sipush (v := nI 962) d_MO_close_128 (by decide) ?_
    obtain ⟨i1, i2, i3, i4, i5, i6, i7⟩ := iv6
    have hxc := (i2 57 (by omega)).trans hx
    have er6 := (i7 r (by omega)).1
    refine w_callV (as := [.int (nI r), .int (nI 931), .int (nI 962)]) (st := []) d_MO_close_131 yM_MO_alike l_MO_226 vM_MO_alike hxc rfl rfl rfl rfl (m_MO_alike hxc i1 (r := r) (c := 931) (d := 962) hr (by decide) (by decide) (by rw [er6]; exact r1) i3 (by omega) (by rw [i5]; exact r3) (fun x hxx => by rw [er6] at hxx; rw [i6 x, hxx]; simp)) (by decide) (by decide) (by decide) (by decide) (Nat.le_of_ble_eq_true rfl) ?_
    rintro _ hh7 ⟨rfl, o8, EE7, SS7, j1, j2, j3, j4, j5, j6⟩
    refine w_eq (st' := []) rfl ?_
    have hx7c := (o8 57 (by omega)).trans hxc
    rw [er6] at j5
    have iv7 : mE hh7 EE7 SS7 ∧ wOff h hh7 59 4 ∧ eOk (EE7 3) ∧ (EE7 3).length ≤ 200 + 2 * (64) ∧ SS7 3 = SS r ∧ (∀ x, eMem (EE7 3) x = (eMem (EE r) x || clP (EE r) 223 x || alQ (EE r) 75 8490 x || alQ (EE r) 107 8490 x || alQ (EE r) 83 383 x || alQ (EE r) 115 383 x || alQ (EE r) 197 8491 x || alQ (EE r) 229 8491 x || alQ (EE r) 931 962 x)) ∧ ∀ j, (j < 3 ∨ j = 11) → EE7 j = EE j ∧ SS7 j = SS j := ⟨j1, i2.tr o8, j2, by omega, j4.trans i5, fun x => by rw [j5 x, i6 x], fun j hj => ⟨(j6 j hj).1.trans (i7 j hj).1, (j6 j hj).2.trans (i7 j hj).2⟩⟩
    clear i1 i2 i3 i4 i5 i6 i7 j1 j2 j3 j4 j5 j6 o8 hxc
    refine w_aload_n d_MO_close_134 rfl rfl ?_
    refine w_iload_n d_MO_close_135 rfl ?_
    refine w_sipush (v := nI 931) d_MO_close_136 (by decide) ?_
    refine w_sipush (v := nI 963) d_MO_close_139 (by decide) ?_
    obtain ⟨i1, i2, i3, i4, i5, i6, i7⟩ := iv7
    have hxc := (i2 57 (by omega)).trans hx
    have er7 := (i7 r (by omega)).1
    refine w_callV (as := [.int (nI r), .int (nI 931), .int (nI 963)]) (st := []) d_MO_close_142 yM_MO_alike l_MO_226 vM_MO_alike hxc rfl rfl rfl rfl (m_MO_alike hxc i1 (r := r) (c := 931) (d := 963) hr (by decide) (by decide) (by rw [er7]; exact r1) i3 (by omega) (by rw [i5]; exact r3) (fun x hxx => by rw [er7] at hxx; rw [i6 x, hxx]; simp)) (by decide) (by decide) (by decide) (by decide) (Nat.le_of_ble_eq_true rfl) ?_
    rintro _ hh8 ⟨rfl, o8, EE8, SS8, j1, j2, j3, j4, j5, j6⟩
    refine w_eq (st' := []) rfl ?_
    have hx8c := (o8 57 (by omega)).trans hxc
    rw [er7] at j5
    have iv8 : mE hh8 EE8 SS8 ∧ wOff h hh8 59 4 ∧ eOk (EE8 3) ∧ (EE8 3).length ≤ 200 + 2 * (65) ∧ SS8 3 = SS r ∧ (∀ x, eMem (EE8 3) x = (eMem (EE r) x || clP (EE r) 223 x || alQ (EE r) 75 8490 x || alQ (EE r) 107 8490 x || alQ (EE r) 83 383 x || alQ (EE r) 115 383 x || alQ (EE r) 197 8491 x || alQ (EE r) 229 8491 x || alQ (EE r) 931 962 x || alQ (EE r) 931 963 x)) ∧ ∀ j, (j < 3 ∨ j = 11) → EE8 j = EE j ∧ SS8 j = SS j := ⟨j1, i2.tr o8, j2, by omega, j4.trans i5, fun x => by rw [j5 x, i6 x], fun j hj => ⟨(j6 j hj).1.trans (i7 j hj).1, (j6 j hj).2.trans (i7 j hj).2⟩⟩
    clear i1 i2 i3 i4 i5 i6 i7 j1 j2 j3 j4 j5 j6 o8 hxc
    refine w_aload_n d_MO_close_145 rfl rfl ?_
    refine w_iload_n d_MO_close_146 rfl ?_
    refine w_sipush (v := nI 962) d_MO_close_147 (by decide) ?_
    refine w_sipush (v := nI 963) d_MO_close_150 (by decide) ?_
    obtain ⟨i1, i2, i3, i4, i5, i6, i7⟩ := iv8
    have hxc := (i2 57 (by omega)).trans hx
    have er8 := (i7 r (by omega)).1
    refine w_callV (as := [.int (nI r), .int (nI 962), .int (nI 963)]) (st := []) d_MO_close_153 yM_MO_alike l_MO_226 vM_MO_alike hxc rfl rfl rfl rfl (m_MO_alike hxc i1 (r := r) (c := 962) (d := 963) hr (by decide) (by decide) (by rw [er8]; exact r1) i3 (by omega) (by rw [i5]; exact r3) (fun x hxx => by rw [er8] at hxx; rw [i6 x, hxx]; simp)) (by decide) (by decide) (by decide) (by decide) (Nat.le_of_ble_eq_true rfl) ?_
    rintro _ hh9 ⟨rfl, o8, EE9, SS9, j1, j2, j3, j4, j5, j6⟩
    refine w_eq (st' := []) rfl ?_
    have hx9c := (o8 57 (by omega)).trans hxc
    rw [er8] at j5
    have iv9 : mE hh9 EE9 SS9 ∧ wOff h hh9 59 4 ∧ eOk (EE9 3) ∧ (EE9 3).length ≤ 200 + 2 * (66) ∧ SS9 3 = SS r ∧ (∀ x, eMem (EE9 3) x = (eMem (EE r) x || clP (EE r) 223 x || alQ (EE r) 75 8490 x || alQ (EE r) 107 8490 x || alQ (EE r) 83 383 x || alQ (EE r) 115 383 x || alQ (EE r) 197 8491 x || alQ (EE r) 229 8491 x || alQ (EE r) 931 962 x || alQ (EE r) 931 963 x || alQ (EE r) 962 963 x)) ∧ ∀ j, (j < 3 ∨ j = 11) → EE9 j = EE j ∧ SS9 j = SS j := ⟨j1, i2.tr o8, j2, by omega, j4.trans i5, fun x => by rw [j5 x, i6 x], fun j hj => ⟨(j6 j hj).1.trans (i7 j hj).1, (j6 j hj).2.trans (i7 j hj).2⟩⟩
    clear i1 i2 i3 i4 i5 i6 i7 j1 j2 j3 j4 j5 j6 o8 hxc
    refine w_aload_n d_MO_close_156 rfl rfl ?_
    refine w_get d_MO_close_157 f_MO_16 hx9c rfl ?_
    refine w_iconst (v := nI 3) d_MO_close_160 (by decide) ?_
    obtain ⟨i1, i2, i3, i4, i5, i6, i7⟩ := iv9
    obtain ⟨gef, gcf, gsf, gnf, gga, ggb, ggc, ggd, ggs⟩ := id i1
    have hfin : ∀ x, eMem (EE9 3) x = (eMem (EE r) x || (casd x && alk (EE r) x)) := fun x => (i6 x).trans (cl_end (EE r) x)
    refine w_iald d_MO_close_161 ggb (vp_in_nI (by omega) (by decide)) ?_
    refine w_topi (y := nI (EE9 3).length) (ggs 3 (by decide)).1 ?_
    refine w_sipush (v := nI 200) d_MO_close_162 (by decide) ?_
    refine w_icmp_le (tgt := 170) d_MO_close_165 rfl (fun c165 => ?_) (fun c165 => ?_)
    · have c165 : (EE9 3).length ≤ 200 := (nI_leI (by omega) (by decide)).mp c165
      refine w_aload_n d_MO_close_170 rfl rfl ?_
      refine w_iload_n d_MO_close_171 rfl ?_
      have sz1 := m_MO_size (X := X) hx9c i1 (r := r) hr (by rw [(i7 r (by omega)).1]; exact r1.1)
      rw [(i7 r (by omega)).1] at sz1
      refine w_callV (as := [.int (nI r)]) (st := []) d_MO_close_172 yM_MO_size l_MO_229 vM_MO_size hx9c rfl rfl rfl rfl (sz1) (by decide) (by decide) (by decide) (by decide) (Nat.le_of_ble_eq_true rfl) ?_
      rintro _ h9_1 ⟨rfl, e9_1⟩
      rw [e9_1]
      refine w_eq (st' := [.int (nI (eSize (EE r)))]) rfl ?_
      refine w_istore_n d_MO_close_175 (by decide) ?_
      refine w_pl (pl' := [some (.ref 57), some (.int (nI r)), some (.int (nI (eSize (EE r))))]) rfl ?_
      refine w_aload_n d_MO_close_176 rfl rfl ?_
      refine w_iconst (v := nI 3) d_MO_close_177 (by decide) ?_
      refine w_iload_n d_MO_close_178 rfl ?_
      refine w_callV (as := [.int (nI 3), .int (nI r)]) (st := []) d_MO_close_179 yM_MO_copy l_MO_76 vM_MO_copy hx9c rfl rfl rfl rfl (m_MO_copy hx9c i1 (f := 3) (t := r) (by decide) (by omega) (by omega)) (by decide) (by decide) (by decide) (by decide) (Nat.le_of_ble_eq_true rfl) ?_
      rintro _ ha_ ⟨rfl, hEa, hoa⟩
      refine w_eq (st' := []) rfl ?_
      have hxa := (hoa 57 (by omega)).trans hx9c
      have sz2 := m_MO_size (X := X) hxa hEa (r := r) hr (by rw [va_up_self]; exact i3.1)
      rw [va_up_self] at sz2
      refine w_aload_n d_MO_close_182 rfl rfl ?_
      refine w_iload_n d_MO_close_183 rfl ?_
      refine w_callV (as := [.int (nI r)]) (st := []) d_MO_close_184 yM_MO_size l_MO_229 vM_MO_size hxa rfl rfl rfl rfl (sz2) (by decide) (by decide) (by decide) (by decide) (Nat.le_of_ble_eq_true rfl) ?_
      rintro _ h9_2 ⟨rfl, e9_2⟩
      rw [e9_2]
      refine w_eq (st' := [.int (nI (eSize (EE9 3)))]) rfl ?_
      refine w_iload_n d_MO_close_187 rfl ?_
      refine w_isub d_MO_close_188 ?_
      rw [← hEN]
      refine w_iret d_MO_close_189 rfl ?_
      refine ⟨EE9 3, i3, hfin, by rw [if_pos c165], (i2.tr hoa).wide (by omega) (by omega), _, _, hm0.sets hEa (i2.tr hoa), by rw [if_pos c165, va_up_self], by rw [va_up_self]; exact i5, fun j hjr hj => ?_⟩
      rw [va_up_ne _ _ hjr, va_up_ne _ _ hjr]; exact i7 j hj
    · have c165 : ¬ (EE9 3).length ≤ 200 := fun z => c165 ((nI_leI (by omega) (by decide)).mpr z)
      refine w_iconst (v := -1) d_MO_close_168 (by decide) ?_
      rw [← hEN]
      refine w_iret d_MO_close_169 rfl ?_
      refine ⟨EE9 3, i3, hfin, by rw [if_neg c165], i2.wide (by omega) (by omega), EE9, SS9, hm0.sets i1 i2, by rw [if_neg c165]; exact (i7 r (by omega)).1, (i7 r (by omega)).2, fun j hjr hj => i7 j hj⟩
  have L : ∀ (n : Nat) (c : Nat) (EEc SSc : Nat → List Nat) (hc3 : wH), (223 - c < n) → (65 ≤ c ∧ c ≤ 223) → (mE hc3 EEc SSc ∧ wOff h hc3 59 4 ∧ eOk (EEc 3) ∧ (EEc 3).length ≤ 200 + 2 * (if c ≤ 91 then c - 65 else if c ≤ 192 then 26 else c - 166) ∧ SSc 3 = SS r ∧ (∀ x, eMem (EEc 3) x = (eMem (EE r) x || clP (EE r) c x)) ∧ ∀ j, (j < 3 ∨ j = 11) → EEc j = EE j ∧ SSc j = SS j) → WP X M_MO_close (wR 5 0 0) 0 EN 0 0 18 [some (.ref 57), some (.int (nI r)), some (.int (nI c))] [] hc3 := by
    intro n
    induction n with
    | zero => intro c EEc SSc hc3 k1 k2 iv; omega
    | succ n ih =>
      intro c EEc SSc hc3 k1 k2 iv
      refine w_iload_n d_MO_close_18 rfl ?_
      refine w_sipush (v := nI 222) d_MO_close_19 (by decide) ?_
      refine w_icmp_gt (tgt := 61) d_MO_close_22 rfl (fun c22 => ?_) (fun c22 => ?_)
      · have c22 : c = 223 := by have := (nI_ltI (a := 222) (b := c) (by decide) (by omega)).mp c22; omega
        subst c22
        refine w_le (pl' := [some (.ref 57), some (.int (nI r)), none]) ⟨rfl, rfl, trivial⟩ ?_
        exact FIN EEc SSc hc3 iv
      · have c22 : c ≤ 222 := Nat.not_lt.mp (fun z => c22 ((nI_ltI (a := 222) (b := c) (by decide) (by omega)).mpr z))
        obtain ⟨i1, i2, i3, i4, i5, i6, i7⟩ := iv
        have hxc := (i2 57 (by omega)).trans hx
        have erc := (i7 r (by omega)).1
        refine w_iload_n d_MO_close_25 rfl ?_
        refine w_bipush (v := nI 90) d_MO_close_26 (by decide) ?_
        suffices JN : ∀ (EE5 SS5 : Nat → List Nat) (h5 : wH), (mE h5 EE5 SS5 ∧ wOff h h5 59 4 ∧ eOk (EE5 3) ∧ (EE5 3).length ≤ 200 + 2 * (if (c + 1) ≤ 91 then (c + 1) - 65 else if (c + 1) ≤ 192 then 26 else (c + 1) - 166) ∧ SS5 3 = SS r ∧ (∀ x, eMem (EE5 3) x = (eMem (EE r) x || clP (EE r) (c + 1) x)) ∧ ∀ j, (j < 3 ∨ j = 11) → EE5 j = EE j ∧ SS5 j = SS j) → WP X M_MO_close (wR 5 0 0) 0 EN 0 0 55 [some (.ref 57), some (.int (nI r)), some (.int (nI c))] [] h5 by
          suffices JY : isLg c = true → WP X M_MO_close (wR 5 0 0) 0 EN 0 0 45 [some (.ref 57), some (.int (nI r)), some (.int (nI c))] [] hc3 by
            refine w_icmp_le (tgt := 45) d_MO_close_28 rfl (fun c28 => ?_) (fun c28 => ?_)
            · have c28 : c ≤ 90 := (nI_leI (by omega) (by decide)).mp c28
              exact JY (decide_eq_true (by omega))
            · have c28 : ¬ c ≤ 90 := fun z => c28 ((nI_leI (by omega) (by decide)).mpr z)
              refine w_iload_n d_MO_close_31 rfl ?_
              refine w_sipush (v := nI 192) d_MO_close_32 (by decide) ?_
              refine w_icmp_lt (tgt := 55) d_MO_close_35 rfl (fun c35 => ?_) (fun c35 => ?_)
              · have c35 : c < 192 := (nI_ltI (by omega) (by decide)).mp c35
                refine JN EEc SSc hc3 ⟨i1, i2, i3, ?_, i5, fun x => ?_, i7⟩
                · split at i4 <;> split <;> (try split at i4) <;> (try split) <;> omega
                · rw [i6 x, clP_s, show isLg c = false from decide_eq_false (by omega)]; simp
              · have c35 : ¬ c < 192 := fun z => c35 ((nI_ltI (by omega) (by decide)).mpr z)
                refine w_iload_n d_MO_close_38 rfl ?_
                refine w_sipush (v := nI 215) d_MO_close_39 (by decide) ?_
                refine w_icmp_eq (tgt := 55) d_MO_close_42 rfl (fun c42 => ?_) (fun c42 => ?_)
                · have c42 : c = 215 := (nI_eq (by omega) (by decide)).mp c42
                  refine JN EEc SSc hc3 ⟨i1, i2, i3, ?_, i5, fun x => ?_, i7⟩
                  · split at i4 <;> split <;> (try split at i4) <;> (try split) <;> omega
                  · rw [i6 x, clP_s, show isLg c = false from decide_eq_false (by omega)]; simp
                · have c42 : ¬ c = 215 := fun z => c42 (by rw [z])
                  exact JY (decide_eq_true (by omega))
          intro hlg
          refine w_aload_n d_MO_close_45 rfl rfl ?_
          refine w_iload_n d_MO_close_46 rfl ?_
          refine w_iload_n d_MO_close_47 rfl ?_
          refine w_iload_n d_MO_close_48 rfl ?_
          refine w_bipush (v := nI 32) d_MO_close_49 (by decide) ?_
          refine w_iadd d_MO_close_51 ?_
          refine w_topi (y := nI (c + 32)) (nI_add _ _) ?_
          refine w_callV (as := [.int (nI r), .int (nI c), .int (nI (c + 32))]) (st := []) d_MO_close_52 yM_MO_alike l_MO_226 vM_MO_alike hxc rfl rfl rfl rfl (m_MO_alike hxc i1 (r := r) (c := c) (d := c + 32) hr (by omega) (by omega) (by rw [erc]; exact r1) i3 (by split at i4 <;> (try split at i4) <;> omega) (by rw [i5]; exact r3) (fun x hxx => by rw [erc] at hxx; rw [i6 x, hxx]; simp)) (by decide) (by decide) (by decide) (by decide) (Nat.le_of_ble_eq_true rfl) ?_
          rintro _ h5 ⟨rfl, o8, EE5, SS5, j1, j2, j3, j4, j5, j6⟩
          refine w_eq (st' := []) rfl ?_
          rw [erc] at j5
          have hl9 := isLg_c hlg
          refine JN EE5 SS5 h5 ⟨j1, i2.tr o8, j2, ?_, j4.trans i5, fun x => ?_, fun j hj => ⟨(j6 j hj).1.trans (i7 j hj).1, (j6 j hj).2.trans (i7 j hj).2⟩⟩
          · split at i4 <;> split <;> (try split at i4) <;> (try split) <;> omega
          · rw [j5 x, i6 x, clP_s, hlg, Bool.true_and]; unfold alQ; rw [Bool.or_assoc]
        intro EE5 SS5 h5 iv5
        refine w_iinc (v := nI (c + 1)) d_MO_close_55 rfl (nI_1 _) (by decide) ?_
        refine w_pl (pl' := [some (.ref 57), some (.int (nI r)), some (.int (nI (c + 1)))]) rfl ?_
        refine w_goto (tgt := 18) d_MO_close_58 rfl ?_
        exact ih (c + 1) EE5 SS5 h5 (by omega) (by omega) iv5
  refine w_iload_n d_MO_close_0 rfl ?_
  refine w_callS (as := [.int (nI r)]) (st := []) d_MO_close_1 yM_MO_register l_MO_196 sM_MO_register rfl rfl (m_MO_regG (r := r) hr) (by decide) (by decide) (by decide) (by decide) (Nat.le_of_ble_eq_true rfl) ?_
  rintro _ h9_3 ⟨rfl, e9_3⟩
  rw [e9_3]
  refine w_eq (st' := [.int (nI 1)]) rfl ?_
  refine w_if_ne (tgt := 9) d_MO_close_4 rfl (fun _ => ?_) (fun z => absurd z (by decide))
  refine w_aload_n d_MO_close_9 rfl rfl ?_
  refine w_iload_n d_MO_close_10 rfl ?_
  refine w_iconst (v := nI 3) d_MO_close_11 (by decide) ?_
  refine w_callV (as := [.int (nI r), .int (nI 3)]) (st := []) d_MO_close_12 yM_MO_copy l_MO_76 vM_MO_copy hx rfl rfl rfl rfl (m_MO_copy hx hE (f := r) (t := 3) (by omega) (by decide) (by omega)) (by decide) (by decide) (by decide) (by decide) (Nat.le_of_ble_eq_true rfl) ?_
  rintro _ hb_ ⟨rfl, hE1, ho1⟩
  refine w_eq (st' := []) rfl ?_
  refine w_bipush (v := nI 65) d_MO_close_15 (by decide) ?_
  refine w_istore_n d_MO_close_17 (by decide) ?_
  refine w_pl (pl' := [some (.ref 57), some (.int (nI r)), some (.int (nI 65))]) rfl ?_
  refine L 200 65 _ _ hb_ (by omega) (by omega) ⟨hE1, ho1, by rw [va_up_self]; exact r1, by rw [va_up_self]; omega, by rw [va_up_self], fun x => ?_, fun j hj => ⟨va_up_ne _ _ (by omega), va_up_ne _ _ (by omega)⟩⟩
  rw [va_up_self]
  have h0 : clP (EE r) 65 x = false := by
    unfold clP
    cases h1 : isLg x with
    | true => have := isLg_lo h1; rw [decide_eq_false (by omega : ¬ x < 65)]; cases h2 : isLg (x - 32) with
      | true => have := isLg_lo h2; rw [decide_eq_false (by omega : ¬ x < 65 + 32)]; rfl
      | false => rfl
    | false => cases h2 : isLg (x - 32) with
      | true => have := isLg_lo h2; rw [decide_eq_false (by omega : ¬ x < 65 + 32)]; rfl
      | false => rfl
  rw [h0, Bool.or_false]
set_option maxHeartbeats 4000000 in
set_option maxRecDepth 100000 in
theorem m_MO_closeB {h : wH} {t : List Nat} {EE SS : Nat → List Nat} (hm : hMO h t EE SS) {x : Int32} (hxr : ¬ (0 ≤ x ∧ x < nI 3)) : PM X M_MO_close 5 0 0 [.ref 57, .int (x)] h (fun z h' => z = some (.int (-1)) ∧ h' = h) := by
  have hm0 := hm; obtain ⟨⟨ap, gd, dp, wr, fi, hx⟩, htx, hE, hA⟩ := hm
  refine PM.at (pl := [some (.ref 57), some (.int (x)), none]) rfl rfl (by simp [wle, wen]) ?_
  generalize hEN : wEm X 0 0 _ = EN
  refine w_iload_n d_MO_close_0 rfl ?_
  refine w_callS (as := [.int (x)]) (st := []) d_MO_close_1 yM_MO_register l_MO_196 sM_MO_register rfl rfl (m_MO_regB (x := x) hxr) (by decide) (by decide) (by decide) (by decide) (Nat.le_of_ble_eq_true rfl) ?_
  rintro _ h9_1 ⟨rfl, e9_1⟩
  rw [e9_1]
  refine w_eq (st' := [.int (nI 0)]) rfl ?_
  refine w_if_ne (tgt := 9) d_MO_close_4 rfl (fun z => absurd (by decide) z) (fun _ => ?_)
  refine w_iconst (v := -1) d_MO_close_7 (by decide) ?_
  rw [← hEN]
  refine w_iret d_MO_close_8 rfl ?_
  exact ⟨rfl, rfl⟩
end MO6
