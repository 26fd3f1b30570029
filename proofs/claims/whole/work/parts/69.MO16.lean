/-! the reference's strings: written by wip/gen/mo16.py -/
def pRd (t : List Nat) : Nat → Nat → List Nat → Option (Nat × List Nat)
  | 0, k, l => some (k, l)
  | f + 1, k, l => if t[k]? = some 125 then some (k, l) else match rc t k with
    | none => none
    | some (a, k1) => pRd t f (pSp t k1) (l ++ [a])
def pStF (B : Nat → Br) (d k : Nat) (l : List Nat) : Option rS := match l with
  | [a] => rJoin B d (k + 1) (rRan a a) false
  | [a, b] => rJoin B d (k + 1) ([], [kOf a b 0]) false
  | [a, b, c] => rJoin B d (k + 1) ([], [kOf a b (c + 1)]) false
  | _ => none
def pStr (t : List Nat) (B : Nat → Br) (d p : Nat) : Option rS := match pRd t 3 (pSp t (p + 1)) [] with
  | none => none
  | some (k, l) => if t[k]? = some 125 then pStF B d k l else none
theorem mS_pushS {ef cf nf : Nat → Int32} {sf : Nat → Int64} {EE SS : Nat → List Nat} {t s : Nat} (hs : ∀ j, j < 12 → mS ef cf sf nf j (EE j) (SS j)) (ht : t < 12) (hl : (SS t).length < 20) : ∀ j, j < 12 → mS ef cf (vp_updL sf (20 * t + (SS t).length) (lN (s - 4398048608256))) (upd nf t (nI ((SS t).length + 1))) j (EE j) (va_up SS t (SS t ++ [s]) j) := by
  intro j hj
  obtain ⟨s1, s2, s3, s4, s5, s6⟩ := hs t ht
  by_cases hjt : j = t
  · subst hjt
    rw [va_up_self]
    refine ⟨s1, by rw [upd_eq, List.length_append]; rfl, s3, by rw [List.length_append, List.length_singleton]; omega, s5, fun i x hx => ?_⟩
    by_cases hi : i < (SS j).length
    · rw [List.getElem?_append_left hi] at hx
      rw [updL_ne (by omega)]
      exact s6 i x hx
    · have hlt := (List.getElem?_eq_some_iff.mp hx).1
      rw [List.length_append, List.length_singleton] at hlt
      have hi2 : i = (SS j).length := by omega
      subst hi2
      rw [List.getElem?_append_right (Nat.le_refl _), Nat.sub_self] at hx
      cases hx
      exact updL_eq
  · rw [va_up_ne _ _ hjt]
    exact (hs j hj).keep (fun _ _ => rfl) rfl (fun i hi => updL_ne (by omega)) (upd_ne hjt)
theorem eCmb_nil {E : List Nat} (h : eOk E) : eCmb 0 E [] = E := (eCmb_eq h ⟨List.Pairwise.nil, fun x hx => by cases hx⟩ h.1 (fun c => by show eMem E c = (eMem E c || eMem [] c); rw [show eMem [] c = false from rfl, Bool.or_false])).symm
theorem sR_add {S T : List Nat} {k : Nat} (h : sR S T) (hk : ¬ k ∈ T) : sR (sCmb 0 S [k]) (T ++ [k]) := by
  refine ⟨sCmb_asc _ _ _, ?_, fun y => ?_⟩
  · rw [List.nodup_append]
    refine ⟨h.2.1, List.pairwise_singleton _ _, fun a ha b hb z => ?_⟩
    rw [List.mem_singleton] at hb
    subst z
    subst hb
    exact hk ha
  · rw [sCmb_mem]
    show (decide (y ∈ S) || decide (y ∈ [k])) = true ↔ y ∈ T ++ [k]
    rw [Bool.or_eq_true, decide_eq_true_eq, decide_eq_true_eq, List.mem_append, h.2.2 y]
theorem sR_has {S T : List Nat} {k : Nat} (h : sR S T) (hk : k ∈ T) : sR (sCmb 0 S [k]) T := by
  refine ⟨sCmb_asc _ _ _, h.2.1, fun y => ?_⟩
  rw [sCmb_mem, ← h.2.2 y]
  show (decide (y ∈ S) || decide (y ∈ [k])) = true ↔ _
  rw [Bool.or_eq_true, decide_eq_true_eq, decide_eq_true_eq, List.mem_singleton]
  constructor
  · rintro (z | z)
    · exact z
    · rw [z]; exact (h.2.2 k).mpr hk
  · exact Or.inl
theorem kOf_ok {a b c : Nat} (ha : a < 1114112) (hb : b < 1114112) (hc : c ≤ 1114112) : sOk (kOf a b c) := ⟨a, b, c, ha, hb, hc, rfl⟩
theorem pRd_S (t : List Nat) (f k : Nat) (l : List Nat) : pRd t (f + 1) k l = if t[k]? = some 125 then some (k, l) else match rc t k with
    | none => none
    | some (a, k1) => pRd t f (pSp t k1) (l ++ [a]) := rfl
section MO16
variable {X : wX}
set_option maxHeartbeats 4000000 in
set_option maxRecDepth 100000 in
theorem m_MO_string {h : wH} {t : List Nat} {EE SS : Nat → List Nat} {ft fb fs : Nat → Int32} {p : Nat} {B : Nat → Br} {j : Nat} (hq : hQ h t EE SS ft fb fs p true (j + 1)) (hR : Rl B (j + 1) EE SS ft fb fs) (hi : pInv t B (j + 1) p) (ht31 : ∀ x ∈ t, x < 1114112) (hw : (B j).2.2.2.2 = 0) (hpl : p < t.length) : PM X M_MO_string 4 0 0 [.ref 57] h (pQ (pStr t B (j + 1) p) h t EE SS) := by
  obtain ⟨⟨wr, fi, hx⟩, htx, hE, h63, h64, h65, h66, h67⟩ := hq
  obtain ⟨tf, tp, t60, thf⟩ := id htx
  have hd5 := hi.1
  have hr := hR j (by omega)
  have hI := hi.at t60 (j := j) (by omega)
  have hk60 := hi.2.2.2.1
  obtain ⟨ef, cf, sf, nf, ha, hb, hc, hd, hs⟩ := id hE
  obtain ⟨s1, s2, s3, s4, s5, s6⟩ := hs (3 + j) (by omega)
  have hsl := sR_len hr.2.1
  obtain ⟨x, hx0⟩ : ∃ x, x = pStr t B (j + 1) p := ⟨_, rfl⟩
  rw [← hx0]
  refine PM.at (pl := [some (.ref 57), none, none, none, none, none, none]) rfl rfl (by simp [wle, wen]) ?_
  generalize hEN : wEm X 0 0 _ = EN
  have C0 : ∀ (k : Nat) (h3 : wH) (gq : Bool), (h3[57]? = some (.inr (7, [.ref 58, .int (nI t.length), .ref 59, .ref 60, .ref 61, .ref 62, .int (nI k), .int (bI gq), .int (nI (j + 1)), .ref 63, .ref 64, .ref 65, .ref 66, .int (wr), .int (fi), .ref 67]))) → (∀ i, i ≠ 57 → h3[i]? = h[i]?) → (k < 1024) → (gq = true → (x = (fun k l => if t[k]? = some 125 then pStF B (j + 1) k l else none) k [])) → (gq = false → x = none) → WP X M_MO_string (wR 4 0 0) 0 EN 0 0 110 [some (.ref 57), some (.int (nI 0)), some (.int (nI 0)), some (.int (nI 0)), some (.int (nI 0)), none, none] [] h3 := by
    intro k h3 gq k3 k4 k7 k5 k6
    refine w_aload_n d_MO_string_110 rfl rfl ?_
    refine w_bipush (v := nI 125) d_MO_string_111 (by decide) ?_
    refine w_callV (as := [.int (nI 125)]) (st := []) d_MO_string_113 yM_MO_expect l_MO_105 vM_MO_expect k3 rfl rfl rfl rfl (m_MO_expect (g0 := gq) (k := k) (c := 125) k3 (htx.keep k4) ht31 (by omega) (by decide)) (by decide) (by decide) (by decide) (by decide) (Nat.le_of_ble_eq_true rfl) ?_
    rintro _ g1 ⟨rfl, x1, y1⟩
    refine w_eq (st' := []) rfl ?_
    have K1 : ∀ i, i ≠ 57 → g1[i]? = h[i]? := fun i hi => (y1 i hi).trans (k4 i hi)
    refine w_aload_n d_MO_string_116 rfl rfl ?_
    refine w_aload_n d_MO_string_117 rfl rfl ?_
    refine w_get d_MO_string_118 f_MO_93 x1 rfl ?_
    refine w_if_eq (tgt := 132) d_MO_string_121 rfl (fun c121 => ?_) (fun c121 => ?_)
    · have c121 := bI_f c121
      have hres : x = none := by
        cases gq with
        | false => exact k6 rfl
        | true =>
          have hn := of_decide_eq_false c121
          rw [k5 rfl]
          dsimp only
          rw [if_neg hn]
      refine w_iconst (v := nI 0) d_MO_string_132 (by decide) ?_
      refine w_put d_MO_string_133 f_MO_93 rfl x1 rfl rfl rfl ?_
      refine w_nm (fun h1 e1 => ?_)
      have x1_1 := wS_eq e1 x1
      refine w_aload_n d_MO_string_136 rfl rfl ?_
      refine w_get d_MO_string_137 f_MO_93 x1_1 rfl ?_
      refine w_if_eq (tgt := 158) d_MO_string_140 rfl (fun _ => ?_) (fun z => absurd (by decide) z)
      refine w_aload_n d_MO_string_158 rfl rfl ?_
      refine w_get d_MO_string_159 f_MO_93 x1_1 rfl ?_
      refine w_if_eq (tgt := 246) d_MO_string_162 rfl (fun _ => ?_) (fun z => absurd (by decide) z)
      refine w_aload_n d_MO_string_246 rfl rfl ?_
      refine w_iconst (v := nI 1) d_MO_string_247 (by decide) ?_
      have K4 : ∀ q, q ≠ 57 → (q < 59 ∨ 63 ≤ q) → h1[q]? = h[q]? := fun q h8 h9 => by rw [wS_off e1 (by omega)]; exact K1 q h8
      have em4 : mE h1 EE SS := hE.keep (fun q hq9 => by rw [wS_off e1 (by omega)]; exact K1 q hq9)
      refine w_callV (as := [.int (nI 1)]) (st := []) d_MO_string_248 yM_MO_ended l_MO_156 vM_MO_ended x1_1 rfl rfl rfl rfl (m_MO_ended (g := false) (w9 := nI 1) x1_1 em4 (by omega) ((K4 64 (by omega) (by omega)).trans h64)) (by decide) (by decide) (by decide) (by decide) (Nat.le_of_ble_eq_true rfl) ?_
      rintro _ g9 ⟨rfl, x9, ⟨fb9, a9, b9, c9⟩, k9⟩
      refine w_eq (st' := []) rfl ?_
      have KK : ∀ q, q < 57 ∨ q = 58 ∨ q = 63 ∨ 65 ≤ q → g9[q]? = h[q]? := fun q hq9 => (k9 q (by omega) (by omega)).trans (K4 q (by omega) (by omega))
      have em9 : mE g9 EE SS := em4.k2 (fun q _ _ => k9 q (by omega) (by omega))
      rw [← hEN]
      refine w_vret d_MO_string_251 rfl ?_
      rw [hres]
      exact pQ_no (hQ.x x9 (htx.k2 (KK 58 (by omega))) em9 ((KK 63 (by omega)).trans h63) a9 ((KK 65 (by omega)).trans h65) (ex_k h66 (KK 66 (by omega))) (ex_k h67 (KK 67 (by omega)))) (fun q hq9 => KK q (by omega)) (fun _ _ => ⟨rfl, rfl⟩)
    · have c121 := bI_t c121
      simp only [Bool.and_eq_true, decide_eq_true_eq] at c121
      have hk5 := k5 c121.1
      have hres := hk5
      dsimp only at hres
      rw [if_pos c121.2] at hres
      refine w_iload_n d_MO_string_124 rfl ?_
      refine w_if_le (tgt := 132) d_MO_string_125 rfl (fun _ => ?_) (fun z => absurd (by decide) z)
      refine w_iconst (v := nI 0) d_MO_string_132 (by decide) ?_
      refine w_put d_MO_string_133 f_MO_93 rfl x1 rfl rfl rfl ?_
      refine w_nm (fun h2 e2 => ?_)
      have x1_2 := wS_eq e2 x1
      refine w_aload_n d_MO_string_136 rfl rfl ?_
      refine w_get d_MO_string_137 f_MO_93 x1_2 rfl ?_
      refine w_if_eq (tgt := 158) d_MO_string_140 rfl (fun _ => ?_) (fun z => absurd (by decide) z)
      refine w_aload_n d_MO_string_158 rfl rfl ?_
      refine w_get d_MO_string_159 f_MO_93 x1_2 rfl ?_
      refine w_if_eq (tgt := 246) d_MO_string_162 rfl (fun _ => ?_) (fun z => absurd (by decide) z)
      refine w_aload_n d_MO_string_246 rfl rfl ?_
      refine w_iconst (v := nI 1) d_MO_string_247 (by decide) ?_
      have K4 : ∀ q, q ≠ 57 → (q < 59 ∨ 63 ≤ q) → h2[q]? = h[q]? := fun q h8 h9 => by rw [wS_off e2 (by omega)]; exact K1 q h8
      have em4 : mE h2 EE SS := hE.keep (fun q hq9 => by rw [wS_off e2 (by omega)]; exact K1 q hq9)
      refine w_callV (as := [.int (nI 1)]) (st := []) d_MO_string_248 yM_MO_ended l_MO_156 vM_MO_ended x1_2 rfl rfl rfl rfl (m_MO_ended (g := false) (w9 := nI 1) x1_2 em4 (by omega) ((K4 64 (by omega) (by omega)).trans h64)) (by decide) (by decide) (by decide) (by decide) (Nat.le_of_ble_eq_true rfl) ?_
      rintro _ g9 ⟨rfl, x9, ⟨fb9, a9, b9, c9⟩, k9⟩
      refine w_eq (st' := []) rfl ?_
      have KK : ∀ q, q < 57 ∨ q = 58 ∨ q = 63 ∨ 65 ≤ q → g9[q]? = h[q]? := fun q hq9 => (k9 q (by omega) (by omega)).trans (K4 q (by omega) (by omega))
      have em9 : mE g9 EE SS := em4.k2 (fun q _ _ => k9 q (by omega) (by omega))
      rw [← hEN]
      refine w_vret d_MO_string_251 rfl ?_
      rw [hres]
      exact pQ_no (hQ.x x9 (htx.k2 (KK 58 (by omega))) em9 ((KK 63 (by omega)).trans h63) a9 ((KK 65 (by omega)).trans h65) (ex_k h66 (KK 66 (by omega))) (ex_k h67 (KK 67 (by omega)))) (fun q hq9 => KK q (by omega)) (fun _ _ => ⟨rfl, rfl⟩)
  have C1 : ∀ (k : Nat) (h3 : wH) (gq : Bool) (va : Int32) (a : Nat), (h3[57]? = some (.inr (7, [.ref 58, .int (nI t.length), .ref 59, .ref 60, .ref 61, .ref 62, .int (nI k), .int (bI gq), .int (nI (j + 1)), .ref 63, .ref 64, .ref 65, .ref 66, .int (wr), .int (fi), .ref 67]))) → (∀ i, i ≠ 57 → h3[i]? = h[i]?) → (k < 1034) → (gq = true → (x = (fun k l => if t[k]? = some 125 then pStF B (j + 1) k l else none) k [a]) ∧ va = nI a ∧ a < 1114112) → (gq = false → x = none) → WP X M_MO_string (wR 4 0 0) 0 EN 0 0 110 [some (.ref 57), some (.int (nI 1)), some (.int (va)), some (.int (nI 0)), some (.int (nI 0)), none, none] [] h3 := by
    intro k h3 gq va a k3 k4 k7 k5 k6
    refine w_aload_n d_MO_string_110 rfl rfl ?_
    refine w_bipush (v := nI 125) d_MO_string_111 (by decide) ?_
    refine w_callV (as := [.int (nI 125)]) (st := []) d_MO_string_113 yM_MO_expect l_MO_105 vM_MO_expect k3 rfl rfl rfl rfl (m_MO_expect (g0 := gq) (k := k) (c := 125) k3 (htx.keep k4) ht31 (by omega) (by decide)) (by decide) (by decide) (by decide) (by decide) (Nat.le_of_ble_eq_true rfl) ?_
    rintro _ g1 ⟨rfl, x1, y1⟩
    refine w_eq (st' := []) rfl ?_
    have K1 : ∀ i, i ≠ 57 → g1[i]? = h[i]? := fun i hi => (y1 i hi).trans (k4 i hi)
    refine w_aload_n d_MO_string_116 rfl rfl ?_
    refine w_aload_n d_MO_string_117 rfl rfl ?_
    refine w_get d_MO_string_118 f_MO_93 x1 rfl ?_
    refine w_if_eq (tgt := 132) d_MO_string_121 rfl (fun c121 => ?_) (fun c121 => ?_)
    · have c121 := bI_f c121
      have hres : x = none := by
        cases gq with
        | false => exact k6 rfl
        | true =>
          have hn := of_decide_eq_false c121
          rw [(k5 rfl).1]
          dsimp only
          rw [if_neg hn]
      refine w_iconst (v := nI 0) d_MO_string_132 (by decide) ?_
      refine w_put d_MO_string_133 f_MO_93 rfl x1 rfl rfl rfl ?_
      refine w_nm (fun h3 e3 => ?_)
      have x1_3 := wS_eq e3 x1
      refine w_aload_n d_MO_string_136 rfl rfl ?_
      refine w_get d_MO_string_137 f_MO_93 x1_3 rfl ?_
      refine w_if_eq (tgt := 158) d_MO_string_140 rfl (fun _ => ?_) (fun z => absurd (by decide) z)
      refine w_aload_n d_MO_string_158 rfl rfl ?_
      refine w_get d_MO_string_159 f_MO_93 x1_3 rfl ?_
      refine w_if_eq (tgt := 246) d_MO_string_162 rfl (fun _ => ?_) (fun z => absurd (by decide) z)
      refine w_aload_n d_MO_string_246 rfl rfl ?_
      refine w_iconst (v := nI 1) d_MO_string_247 (by decide) ?_
      have K4 : ∀ q, q ≠ 57 → (q < 59 ∨ 63 ≤ q) → h3[q]? = h[q]? := fun q h8 h9 => by rw [wS_off e3 (by omega)]; exact K1 q h8
      have em4 : mE h3 EE SS := hE.keep (fun q hq9 => by rw [wS_off e3 (by omega)]; exact K1 q hq9)
      refine w_callV (as := [.int (nI 1)]) (st := []) d_MO_string_248 yM_MO_ended l_MO_156 vM_MO_ended x1_3 rfl rfl rfl rfl (m_MO_ended (g := false) (w9 := nI 1) x1_3 em4 (by omega) ((K4 64 (by omega) (by omega)).trans h64)) (by decide) (by decide) (by decide) (by decide) (Nat.le_of_ble_eq_true rfl) ?_
      rintro _ g9 ⟨rfl, x9, ⟨fb9, a9, b9, c9⟩, k9⟩
      refine w_eq (st' := []) rfl ?_
      have KK : ∀ q, q < 57 ∨ q = 58 ∨ q = 63 ∨ 65 ≤ q → g9[q]? = h[q]? := fun q hq9 => (k9 q (by omega) (by omega)).trans (K4 q (by omega) (by omega))
      have em9 : mE g9 EE SS := em4.k2 (fun q _ _ => k9 q (by omega) (by omega))
      rw [← hEN]
      refine w_vret d_MO_string_251 rfl ?_
      rw [hres]
      exact pQ_no (hQ.x x9 (htx.k2 (KK 58 (by omega))) em9 ((KK 63 (by omega)).trans h63) a9 ((KK 65 (by omega)).trans h65) (ex_k h66 (KK 66 (by omega))) (ex_k h67 (KK 67 (by omega)))) (fun q hq9 => KK q (by omega)) (fun _ _ => ⟨rfl, rfl⟩)
    · have c121 := bI_t c121
      simp only [Bool.and_eq_true, decide_eq_true_eq] at c121
      have hk5 := k5 c121.1
      have hres := hk5.1
      dsimp only at hres
      rw [if_pos c121.2] at hres
      obtain ⟨ea0, la0⟩ := hk5.2
      refine w_iload_n d_MO_string_124 rfl ?_
      refine w_if_le (tgt := 132) d_MO_string_125 rfl (fun z => absurd z (by decide)) (fun _ => ?_)
      refine w_iconst (v := nI 1) d_MO_string_128 (by decide) ?_
      refine w_goto (tgt := 133) d_MO_string_129 rfl ?_
      refine w_put d_MO_string_133 f_MO_93 rfl x1 rfl rfl rfl ?_
      refine w_nm (fun h4 e4 => ?_)
      have x1_4 := wS_eq e4 x1
      refine w_aload_n d_MO_string_136 rfl rfl ?_
      refine w_get d_MO_string_137 f_MO_93 x1_4 rfl ?_
      refine w_if_eq (tgt := 158) d_MO_string_140 rfl (fun z => absurd z (by decide)) (fun _ => ?_)
      refine w_iload_n d_MO_string_143 rfl ?_
      refine w_iconst (v := nI 1) d_MO_string_144 (by decide) ?_
      refine w_icmp_ne (tgt := 158) d_MO_string_145 rfl (fun z => absurd (by decide) z) (fun _ => ?_)
      refine w_aload_n d_MO_string_148 rfl rfl ?_
      refine w_aload_n d_MO_string_149 rfl rfl ?_
      refine w_callV (as := []) (st := [.ref 57]) d_MO_string_150 yM_MO_level l_MO_152 vM_MO_level x1_4 rfl rfl rfl rfl (m_MO_level x1_4) (by decide) (by decide) (by decide) (by decide) (Nat.le_of_ble_eq_true rfl) ?_
      rintro _ h9_5 ⟨rfl, e9_5⟩
      rw [e9_5]
      refine w_eq (st' := [.int (nI (3 + j)), .ref 57]) rfl ?_
      refine w_iload_n d_MO_string_153 rfl ?_
      refine w_topi (y := nI a) ea0 ?_
      refine w_iload_n d_MO_string_154 rfl ?_
      refine w_topi (y := nI a) ea0 ?_
      have K4 : ∀ i, i ≠ 57 → h4[i]? = h[i]? := fun i hi => by rw [wS_off e4 (by omega)]; exact K1 i hi
      refine w_callV (as := [.int (nI (3 + j)), .int (nI a), .int (nI a)]) (st := []) d_MO_string_155 yM_MO_addRange l_MO_123 vM_MO_addRange x1_4 rfl rfl rfl rfl (m_MO_addRange (t := 3 + j) (a := a) (c := a) x1_4 (hE.keep K4) (by omega) (by omega) (by omega) (by omega) (by omega) (by rw [hr.1]; exact hI.1) (by rw [hr.1]; have := hI.2.1; omega) (sR_sOk hr.2.1 hI.2.2.1)) (by decide) (by decide) (by decide) (by decide) (Nat.le_of_ble_eq_true rfl) ?_
      rintro _ g5 ⟨rfl, o5, F5, T5, em5, q5, r5, k50⟩
      refine w_eq (st' := []) rfl ?_
      have x5 := (o5 57 (by omega)).trans x1_4
      have K5 : ∀ q, q ≠ 57 → (q < 59 ∨ 63 ≤ q) → g5[q]? = h[q]? := fun q h8 h9 => (o5 q (by omega)).trans (K4 q h8)
      refine w_aload_n d_MO_string_158 rfl rfl ?_
      refine w_get d_MO_string_159 f_MO_93 x5 rfl ?_
      refine w_if_eq (tgt := 246) d_MO_string_162 rfl (fun z => absurd z (by decide)) (fun _ => ?_)
      refine w_iload_n d_MO_string_165 rfl ?_
      refine w_iconst (v := nI 1) d_MO_string_166 (by decide) ?_
      refine w_icmp_le (tgt := 246) d_MO_string_167 rfl (fun _ => ?_) (fun z => absurd (by decide) z)
      refine w_aload_n d_MO_string_246 rfl rfl ?_
      refine w_iconst (v := nI 1) d_MO_string_247 (by decide) ?_
      refine w_callV (as := [.int (nI 1)]) (st := []) d_MO_string_248 yM_MO_ended l_MO_156 vM_MO_ended x5 rfl rfl rfl rfl (m_MO_ended (g := true) (w9 := nI 1) x5 em5 (by omega) ((K5 64 (by omega) (by omega)).trans h64)) (by decide) (by decide) (by decide) (by decide) (Nat.le_of_ble_eq_true rfl) ?_
      rintro _ g9 ⟨rfl, x9, ⟨fb9, a9, b9, c9⟩, k9⟩
      refine w_eq (st' := []) rfl ?_
      have KK : ∀ q, q < 57 ∨ q = 58 ∨ q = 63 ∨ 65 ≤ q → g9[q]? = h[q]? := fun q hq9 => (k9 q (by omega) (by omega)).trans (K5 q (by omega) (by omega))
      have em9 : mE g9 F5 T5 := em5.k2 (fun q _ _ => k9 q (by omega) (by omega))
      rw [← hEN]
      refine w_vret d_MO_string_251 rfl ?_
      rw [hres]
      exact pQ_put (h9 := h) (EE' := F5) (SS' := T5) (I := rRan a a) hR hw x9 (htx.k2 (KK 58 (by omega))) em9 ((KK 63 (by omega)).trans h63) a9 ((KK 65 (by omega)).trans h65) (ex_k h66 (KK 66 (by omega))) (ex_k h67 (KK 67 (by omega))) (by rw [q5, hr.1]; rfl) (by show sR (sCmb 0 (B j).1.2 []) _; rw [sCmb_nil hr.2.1.1, r5]; exact hr.2.1) k50 b9 c9 (fun q hq9 => KK q (by omega)) (by omega)
  have C2 : ∀ (k : Nat) (h3 : wH) (gq : Bool) (va vb : Int32) (a b : Nat), (h3[57]? = some (.inr (7, [.ref 58, .int (nI t.length), .ref 59, .ref 60, .ref 61, .ref 62, .int (nI k), .int (bI gq), .int (nI (j + 1)), .ref 63, .ref 64, .ref 65, .ref 66, .int (wr), .int (fi), .ref 67]))) → (∀ i, i ≠ 57 → h3[i]? = h[i]?) → (k < 1044) → (gq = true → (x = (fun k l => if t[k]? = some 125 then pStF B (j + 1) k l else none) k [a, b]) ∧ va = nI a ∧ a < 1114112 ∧ vb = nI b ∧ b < 1114112) → (gq = false → x = none) → WP X M_MO_string (wR 4 0 0) 0 EN 0 0 110 [some (.ref 57), some (.int (nI 2)), some (.int (va)), some (.int (vb)), some (.int (nI 0)), none, none] [] h3 := by
    intro k h3 gq va vb a b k3 k4 k7 k5 k6
    refine w_aload_n d_MO_string_110 rfl rfl ?_
    refine w_bipush (v := nI 125) d_MO_string_111 (by decide) ?_
    refine w_callV (as := [.int (nI 125)]) (st := []) d_MO_string_113 yM_MO_expect l_MO_105 vM_MO_expect k3 rfl rfl rfl rfl (m_MO_expect (g0 := gq) (k := k) (c := 125) k3 (htx.keep k4) ht31 (by omega) (by decide)) (by decide) (by decide) (by decide) (by decide) (Nat.le_of_ble_eq_true rfl) ?_
    rintro _ g1 ⟨rfl, x1, y1⟩
    refine w_eq (st' := []) rfl ?_
    have K1 : ∀ i, i ≠ 57 → g1[i]? = h[i]? := fun i hi => (y1 i hi).trans (k4 i hi)
    refine w_aload_n d_MO_string_116 rfl rfl ?_
    refine w_aload_n d_MO_string_117 rfl rfl ?_
    refine w_get d_MO_string_118 f_MO_93 x1 rfl ?_
    refine w_if_eq (tgt := 132) d_MO_string_121 rfl (fun c121 => ?_) (fun c121 => ?_)
    · have c121 := bI_f c121
      have hres : x = none := by
        cases gq with
        | false => exact k6 rfl
        | true =>
          have hn := of_decide_eq_false c121
          rw [(k5 rfl).1]
          dsimp only
          rw [if_neg hn]
      refine w_iconst (v := nI 0) d_MO_string_132 (by decide) ?_
      refine w_put d_MO_string_133 f_MO_93 rfl x1 rfl rfl rfl ?_
      refine w_nm (fun h6 e6 => ?_)
      have x1_6 := wS_eq e6 x1
      refine w_aload_n d_MO_string_136 rfl rfl ?_
      refine w_get d_MO_string_137 f_MO_93 x1_6 rfl ?_
      refine w_if_eq (tgt := 158) d_MO_string_140 rfl (fun _ => ?_) (fun z => absurd (by decide) z)
      refine w_aload_n d_MO_string_158 rfl rfl ?_
      refine w_get d_MO_string_159 f_MO_93 x1_6 rfl ?_
      refine w_if_eq (tgt := 246) d_MO_string_162 rfl (fun _ => ?_) (fun z => absurd (by decide) z)
      refine w_aload_n d_MO_string_246 rfl rfl ?_
      refine w_iconst (v := nI 1) d_MO_string_247 (by decide) ?_
      have K4 : ∀ q, q ≠ 57 → (q < 59 ∨ 63 ≤ q) → h6[q]? = h[q]? := fun q h8 h9 => by rw [wS_off e6 (by omega)]; exact K1 q h8
      have em4 : mE h6 EE SS := hE.keep (fun q hq9 => by rw [wS_off e6 (by omega)]; exact K1 q hq9)
      refine w_callV (as := [.int (nI 1)]) (st := []) d_MO_string_248 yM_MO_ended l_MO_156 vM_MO_ended x1_6 rfl rfl rfl rfl (m_MO_ended (g := false) (w9 := nI 1) x1_6 em4 (by omega) ((K4 64 (by omega) (by omega)).trans h64)) (by decide) (by decide) (by decide) (by decide) (Nat.le_of_ble_eq_true rfl) ?_
      rintro _ g9 ⟨rfl, x9, ⟨fb9, a9, b9, c9⟩, k9⟩
      refine w_eq (st' := []) rfl ?_
      have KK : ∀ q, q < 57 ∨ q = 58 ∨ q = 63 ∨ 65 ≤ q → g9[q]? = h[q]? := fun q hq9 => (k9 q (by omega) (by omega)).trans (K4 q (by omega) (by omega))
      have em9 : mE g9 EE SS := em4.k2 (fun q _ _ => k9 q (by omega) (by omega))
      rw [← hEN]
      refine w_vret d_MO_string_251 rfl ?_
      rw [hres]
      exact pQ_no (hQ.x x9 (htx.k2 (KK 58 (by omega))) em9 ((KK 63 (by omega)).trans h63) a9 ((KK 65 (by omega)).trans h65) (ex_k h66 (KK 66 (by omega))) (ex_k h67 (KK 67 (by omega)))) (fun q hq9 => KK q (by omega)) (fun _ _ => ⟨rfl, rfl⟩)
    · have c121 := bI_t c121
      simp only [Bool.and_eq_true, decide_eq_true_eq] at c121
      have hk5 := k5 c121.1
      have hres := hk5.1
      dsimp only at hres
      rw [if_pos c121.2] at hres
      obtain ⟨ea0, la0, eb0, lb0⟩ := hk5.2
      refine w_iload_n d_MO_string_124 rfl ?_
      refine w_if_le (tgt := 132) d_MO_string_125 rfl (fun z => absurd z (by decide)) (fun _ => ?_)
      refine w_iconst (v := nI 1) d_MO_string_128 (by decide) ?_
      refine w_goto (tgt := 133) d_MO_string_129 rfl ?_
      refine w_put d_MO_string_133 f_MO_93 rfl x1 rfl rfl rfl ?_
      refine w_nm (fun h7 e7 => ?_)
      have x1_7 := wS_eq e7 x1
      refine w_aload_n d_MO_string_136 rfl rfl ?_
      refine w_get d_MO_string_137 f_MO_93 x1_7 rfl ?_
      refine w_if_eq (tgt := 158) d_MO_string_140 rfl (fun z => absurd z (by decide)) (fun _ => ?_)
      refine w_iload_n d_MO_string_143 rfl ?_
      refine w_iconst (v := nI 1) d_MO_string_144 (by decide) ?_
      refine w_icmp_ne (tgt := 158) d_MO_string_145 rfl (fun _ => ?_) (fun z => absurd z (by decide))
      refine w_aload_n d_MO_string_158 rfl rfl ?_
      refine w_get d_MO_string_159 f_MO_93 x1_7 rfl ?_
      refine w_if_eq (tgt := 246) d_MO_string_162 rfl (fun z => absurd z (by decide)) (fun _ => ?_)
      refine w_iload_n d_MO_string_165 rfl ?_
      refine w_iconst (v := nI 1) d_MO_string_166 (by decide) ?_
      refine w_icmp_le (tgt := 246) d_MO_string_167 rfl (fun z => absurd z (by decide)) (fun _ => ?_)
      refine w_iload_n d_MO_string_170 rfl ?_
      refine w_topi (y := nI a) ea0 ?_
      refine w_iload_n d_MO_string_171 rfl ?_
      refine w_topi (y := nI b) eb0 ?_
      refine w_iload d_MO_string_172 rfl ?_
      refine w_iload_n d_MO_string_174 rfl ?_
      refine w_iconst (v := nI 3) d_MO_string_175 (by decide) ?_
      refine w_icmp_ne (tgt := 183) d_MO_string_176 rfl (fun _ => ?_) (fun z => absurd z (by decide))
      refine w_iconst (v := nI 0) d_MO_string_183 (by decide) ?_
      refine w_callS (as := [.int (nI a), .int (nI b), .int (nI 0), .int (nI 0)]) (st := []) d_MO_string_184 yM_MO_stringOf l_MO_168 sM_MO_stringOf rfl rfl (m_MO_strOf2 la0 lb0) (by decide) (by decide) (by decide) (by decide) (Nat.le_of_ble_eq_true rfl) ?_
      rintro _ h9_8 ⟨rfl, e9_8⟩
      rw [e9_8]
      refine w_eq (st' := [.long (lN (kOf a b 0 - 4398048608256))]) rfl ?_
      refine w_lstore d_MO_string_187 (by decide) ?_
      refine w_pl (pl' := [some (.ref 57), some (.int (nI 2)), some (.int (va)), some (.int (vb)), some (.int (nI 0)), some (.long (lN (kOf a b 0 - 4398048608256))), none]) rfl ?_
      refine w_aload_n d_MO_string_189 rfl rfl ?_
      refine w_aload_n d_MO_string_190 rfl rfl ?_
      refine w_callV (as := []) (st := [.ref 57]) d_MO_string_191 yM_MO_level l_MO_152 vM_MO_level x1_7 rfl rfl rfl rfl (m_MO_level x1_7) (by decide) (by decide) (by decide) (by decide) (Nat.le_of_ble_eq_true rfl) ?_
      rintro _ h9_9 ⟨rfl, e9_9⟩
      rw [e9_9]
      refine w_eq (st' := [.int (nI (3 + j)), .ref 57]) rfl ?_
      refine w_lload d_MO_string_194 rfl ?_
      have K4 : ∀ i, i ≠ 57 → h7[i]? = h[i]? := fun i hi => by rw [wS_off e7 (by omega)]; exact K1 i hi
      have hky : sOk (kOf a b 0) := kOf_ok la0 lb0 (by omega)
      refine w_callV (as := [.int (nI (3 + j)), .long (lN (kOf a b 0 - 4398048608256))]) (st := []) d_MO_string_196 yM_MO_stringMember l_MO_64 vM_MO_stringMember x1_7 rfl rfl rfl rfl (m_MO_strMember (s := kOf a b 0) x1_7 (hE.keep K4) (t := 3 + j) (by omega) hky (sR_sOk hr.2.1 hI.2.2.1)) (by decide) (by decide) (by decide) (by decide) (Nat.le_of_ble_eq_true rfl) ?_
      rintro _ h9_10 ⟨rfl, e9_10⟩
      rw [e9_10]
      refine w_eq (st' := [.int (bI (decide (kOf a b 0 ∈ SS (3 + j))))]) rfl ?_
      refine w_if_ne (tgt := 246) d_MO_string_199 rfl (fun c199 => ?_) (fun c199 => ?_)
      · have c199 := of_decide_eq_true (bI_t c199)
        refine w_aload_n d_MO_string_246 rfl rfl ?_
        refine w_iconst (v := nI 1) d_MO_string_247 (by decide) ?_
        have K6 : ∀ q, q ≠ 57 → (q < 59 ∨ 63 ≤ q) → h7[q]? = h[q]? := fun q h8 h9 => K4 q h8
        have em6 : mE h7 EE SS := hE.keep K4
        refine w_callV (as := [.int (nI 1)]) (st := []) d_MO_string_248 yM_MO_ended l_MO_156 vM_MO_ended x1_7 rfl rfl rfl rfl (m_MO_ended (g := true) (w9 := nI 1) x1_7 em6 (by omega) ((K6 64 (by omega) (by omega)).trans h64)) (by decide) (by decide) (by decide) (by decide) (Nat.le_of_ble_eq_true rfl) ?_
        rintro _ g9 ⟨rfl, x9, ⟨fb9, a9, b9, c9⟩, k9⟩
        refine w_eq (st' := []) rfl ?_
        have KK : ∀ q, q < 57 ∨ q = 58 ∨ q = 63 ∨ 65 ≤ q → g9[q]? = h[q]? := fun q hq9 => (k9 q (by omega) (by omega)).trans (K6 q (by omega) (by omega))
        have em9 : mE g9 EE SS := em6.k2 (fun q _ _ => k9 q (by omega) (by omega))
        rw [← hEN]
        refine w_vret d_MO_string_251 rfl ?_
        rw [hres]
        refine pQ_put (h9 := h) (EE' := EE) (SS' := SS) (I := ([], [kOf a b 0])) hR hw x9 (htx.k2 (KK 58 (by omega))) em9 ((KK 63 (by omega)).trans h63) a9 ((KK 65 (by omega)).trans h65) (ex_k h66 (KK 66 (by omega))) (ex_k h67 (KK 67 (by omega))) ?_ ?_ (fun q h1 _ _ => ⟨rfl, rfl⟩) b9 c9 (fun q hq9 => KK q (by omega)) (by omega)
        · rw [hr.1]; exact (eCmb_nil hI.1).symm
        · exact sR_has hr.2.1 c199
      · have c199 := of_decide_eq_false (bI_f c199)
        have hc4 := (K4 61 (by omega)).trans hc
        have hd4 := (K4 62 (by omega)).trans hd
        have ha4 := (K4 59 (by omega)).trans ha
        have hb4 := (K4 60 (by omega)).trans hb
        refine w_aload_n d_MO_string_202 rfl rfl ?_
        refine w_get d_MO_string_203 f_MO_19 x1_7 rfl ?_
        refine w_bipush (v := nI 20) d_MO_string_206 (by decide) ?_
        refine w_aload_n d_MO_string_208 rfl rfl ?_
        refine w_callV (as := []) (st := [.int (nI 20), .ref 61]) d_MO_string_209 yM_MO_level l_MO_152 vM_MO_level x1_7 rfl rfl rfl rfl (m_MO_level x1_7) (by decide) (by decide) (by decide) (by decide) (Nat.le_of_ble_eq_true rfl) ?_
        rintro _ h9_11 ⟨rfl, e9_11⟩
        rw [e9_11]
        refine w_eq (st' := [.int (nI (3 + j)), .int (nI 20), .ref 61]) rfl ?_
        refine w_imul d_MO_string_212 ?_
        refine w_topi (y := nI (20 * (3 + j))) (pk_mul _ _) ?_
        refine w_aload_n d_MO_string_213 rfl rfl ?_
        refine w_get d_MO_string_214 f_MO_23 x1_7 rfl ?_
        refine w_aload_n d_MO_string_217 rfl rfl ?_
        refine w_callV (as := []) (st := [.ref 62, .int (nI (20 * (3 + j))), .ref 61]) d_MO_string_218 yM_MO_level l_MO_152 vM_MO_level x1_7 rfl rfl rfl rfl (m_MO_level x1_7) (by decide) (by decide) (by decide) (by decide) (Nat.le_of_ble_eq_true rfl) ?_
        rintro _ h9_12 ⟨rfl, e9_12⟩
        rw [e9_12]
        refine w_eq (st' := [.int (nI (3 + j)), .ref 62, .int (nI (20 * (3 + j))), .ref 61]) rfl ?_
        refine w_iald d_MO_string_221 hd4 (vp_in_nI (by omega) (by decide)) ?_
        refine w_topi (y := nI (SS (3 + j)).length) (by rw [nI_clamp (by omega)]; exact s2) ?_
        refine w_iadd d_MO_string_222 ?_
        refine w_topi (y := nI (20 * (3 + j) + (SS (3 + j)).length)) (nI_add _ _) ?_
        refine w_lload d_MO_string_223 rfl ?_
        refine w_last d_MO_string_225 hc4 (vp_in_nI (by omega) (by decide)) ?_
        refine w_nm (fun h13 e13 => ?_)
        have x1_13 := wS_ne e13 (by omega) x1_7
        have hc4_13 := wS_eq e13 hc4
        have hd4_13 := wS_ne e13 (by omega) hd4
        have ha4_13 := wS_ne e13 (by omega) ha4
        have hb4_13 := wS_ne e13 (by omega) hb4
        refine w_aload_n d_MO_string_226 rfl rfl ?_
        refine w_get d_MO_string_227 f_MO_23 x1_13 rfl ?_
        refine w_aload_n d_MO_string_230 rfl rfl ?_
        refine w_callV (as := []) (st := [.ref 62]) d_MO_string_231 yM_MO_level l_MO_152 vM_MO_level x1_13 rfl rfl rfl rfl (m_MO_level x1_13) (by decide) (by decide) (by decide) (by decide) (Nat.le_of_ble_eq_true rfl) ?_
        rintro _ h9_14 ⟨rfl, e9_14⟩
        rw [e9_14]
        refine w_eq (st' := [.int (nI (3 + j)), .ref 62]) rfl ?_
        refine w_aload_n d_MO_string_234 rfl rfl ?_
        refine w_get d_MO_string_235 f_MO_23 x1_13 rfl ?_
        refine w_aload_n d_MO_string_238 rfl rfl ?_
        refine w_callV (as := []) (st := [.ref 62, .int (nI (3 + j)), .ref 62]) d_MO_string_239 yM_MO_level l_MO_152 vM_MO_level x1_13 rfl rfl rfl rfl (m_MO_level x1_13) (by decide) (by decide) (by decide) (by decide) (Nat.le_of_ble_eq_true rfl) ?_
        rintro _ h9_15 ⟨rfl, e9_15⟩
        rw [e9_15]
        refine w_eq (st' := [.int (nI (3 + j)), .ref 62, .int (nI (3 + j)), .ref 62]) rfl ?_
        refine w_iald d_MO_string_242 hd4_13 (vp_in_nI (by omega) (by decide)) ?_
        refine w_topi (y := nI (SS (3 + j)).length) (by rw [nI_clamp (by omega)]; exact s2) ?_
        refine w_iconst (v := nI 1) d_MO_string_243 (by decide) ?_
        refine w_iadd d_MO_string_244 ?_
        refine w_topi (y := nI ((SS (3 + j)).length + 1)) (nI_1 _) ?_
        refine w_iast d_MO_string_245 hd4_13 (vp_in_nI (by omega) (by decide)) ?_
        refine w_nm (fun h16 e16 => ?_)
        have x1_16 := wS_ne e16 (by omega) x1_13
        have hc4_16 := wS_ne e16 (by omega) hc4_13
        have hd4_16 := wS_eq e16 hd4_13
        have ha4_16 := wS_ne e16 (by omega) ha4_13
        have hb4_16 := wS_ne e16 (by omega) hb4_13
        refine w_aload_n d_MO_string_246 rfl rfl ?_
        refine w_iconst (v := nI 1) d_MO_string_247 (by decide) ?_
        have K6 : ∀ q, q ≠ 57 → (q < 59 ∨ 63 ≤ q) → h16[q]? = h[q]? := fun q h8 h9 => by rw [wS_off e16 (by omega), wS_off e13 (by omega), wS_off e7 (by omega)]; exact K1 q h8
        have em6 : mE h16 EE (va_up SS (3 + j) (SS (3 + j) ++ [kOf a b 0])) := by
          have hps := mS_pushS (s := kOf a b 0) hs (t := 3 + j) (by omega) (by omega)
          have hc9 := hc4_16
          have hd9 := hd4_16
          rw [nI_clamp (by omega)] at hc9 hd9
          exact ⟨_, _, _, _, ha4_16, hb4_16, hc9, hd9, hps⟩
        refine w_callV (as := [.int (nI 1)]) (st := []) d_MO_string_248 yM_MO_ended l_MO_156 vM_MO_ended x1_16 rfl rfl rfl rfl (m_MO_ended (g := true) (w9 := nI 1) x1_16 em6 (by omega) ((K6 64 (by omega) (by omega)).trans h64)) (by decide) (by decide) (by decide) (by decide) (Nat.le_of_ble_eq_true rfl) ?_
        rintro _ g9 ⟨rfl, x9, ⟨fb9, a9, b9, c9⟩, k9⟩
        refine w_eq (st' := []) rfl ?_
        have KK : ∀ q, q < 57 ∨ q = 58 ∨ q = 63 ∨ 65 ≤ q → g9[q]? = h[q]? := fun q hq9 => (k9 q (by omega) (by omega)).trans (K6 q (by omega) (by omega))
        have em9 : mE g9 EE (va_up SS (3 + j) (SS (3 + j) ++ [kOf a b 0])) := em6.k2 (fun q _ _ => k9 q (by omega) (by omega))
        rw [← hEN]
        refine w_vret d_MO_string_251 rfl ?_
        rw [hres]
        refine pQ_put (h9 := h) (EE' := EE) (I := ([], [kOf a b 0])) hR hw x9 (htx.k2 (KK 58 (by omega))) em9 ((KK 63 (by omega)).trans h63) a9 ((KK 65 (by omega)).trans h65) (ex_k h66 (KK 66 (by omega))) (ex_k h67 (KK 67 (by omega))) ?_ ?_ (fun q h1 _ _ => ⟨rfl, va_up_ne _ _ h1⟩) b9 c9 (fun q hq9 => KK q (by omega)) (by omega)
        · rw [hr.1]; exact (eCmb_nil hI.1).symm
        · rw [va_up_self]; exact sR_add hr.2.1 c199
  have C3 : ∀ (k : Nat) (h3 : wH) (gq : Bool) (va vb vc : Int32) (a b c : Nat), (h3[57]? = some (.inr (7, [.ref 58, .int (nI t.length), .ref 59, .ref 60, .ref 61, .ref 62, .int (nI k), .int (bI gq), .int (nI (j + 1)), .ref 63, .ref 64, .ref 65, .ref 66, .int (wr), .int (fi), .ref 67]))) → (∀ i, i ≠ 57 → h3[i]? = h[i]?) → (k < 1054) → (gq = true → (x = (fun k l => if t[k]? = some 125 then pStF B (j + 1) k l else none) k [a, b, c]) ∧ va = nI a ∧ a < 1114112 ∧ vb = nI b ∧ b < 1114112 ∧ vc = nI c ∧ c < 1114112) → (gq = false → x = none) → WP X M_MO_string (wR 4 0 0) 0 EN 0 0 110 [some (.ref 57), some (.int (nI 3)), some (.int (va)), some (.int (vb)), some (.int (vc)), none, none] [] h3 := by
    intro k h3 gq va vb vc a b c k3 k4 k7 k5 k6
    refine w_aload_n d_MO_string_110 rfl rfl ?_
    refine w_bipush (v := nI 125) d_MO_string_111 (by decide) ?_
    refine w_callV (as := [.int (nI 125)]) (st := []) d_MO_string_113 yM_MO_expect l_MO_105 vM_MO_expect k3 rfl rfl rfl rfl (m_MO_expect (g0 := gq) (k := k) (c := 125) k3 (htx.keep k4) ht31 (by omega) (by decide)) (by decide) (by decide) (by decide) (by decide) (Nat.le_of_ble_eq_true rfl) ?_
    rintro _ g1 ⟨rfl, x1, y1⟩
    refine w_eq (st' := []) rfl ?_
    have K1 : ∀ i, i ≠ 57 → g1[i]? = h[i]? := fun i hi => (y1 i hi).trans (k4 i hi)
    refine w_aload_n d_MO_string_116 rfl rfl ?_
    refine w_aload_n d_MO_string_117 rfl rfl ?_
    refine w_get d_MO_string_118 f_MO_93 x1 rfl ?_
    refine w_if_eq (tgt := 132) d_MO_string_121 rfl (fun c121 => ?_) (fun c121 => ?_)
    · have c121 := bI_f c121
      have hres : x = none := by
        cases gq with
        | false => exact k6 rfl
        | true =>
          have hn := of_decide_eq_false c121
          rw [(k5 rfl).1]
          dsimp only
          rw [if_neg hn]
      refine w_iconst (v := nI 0) d_MO_string_132 (by decide) ?_
      refine w_put d_MO_string_133 f_MO_93 rfl x1 rfl rfl rfl ?_
      refine w_nm (fun h17 e17 => ?_)
      have x1_17 := wS_eq e17 x1
      refine w_aload_n d_MO_string_136 rfl rfl ?_
      refine w_get d_MO_string_137 f_MO_93 x1_17 rfl ?_
      refine w_if_eq (tgt := 158) d_MO_string_140 rfl (fun _ => ?_) (fun z => absurd (by decide) z)
      refine w_aload_n d_MO_string_158 rfl rfl ?_
      refine w_get d_MO_string_159 f_MO_93 x1_17 rfl ?_
      refine w_if_eq (tgt := 246) d_MO_string_162 rfl (fun _ => ?_) (fun z => absurd (by decide) z)
      refine w_aload_n d_MO_string_246 rfl rfl ?_
      refine w_iconst (v := nI 1) d_MO_string_247 (by decide) ?_
      have K4 : ∀ q, q ≠ 57 → (q < 59 ∨ 63 ≤ q) → h17[q]? = h[q]? := fun q h8 h9 => by rw [wS_off e17 (by omega)]; exact K1 q h8
      have em4 : mE h17 EE SS := hE.keep (fun q hq9 => by rw [wS_off e17 (by omega)]; exact K1 q hq9)
      refine w_callV (as := [.int (nI 1)]) (st := []) d_MO_string_248 yM_MO_ended l_MO_156 vM_MO_ended x1_17 rfl rfl rfl rfl (m_MO_ended (g := false) (w9 := nI 1) x1_17 em4 (by omega) ((K4 64 (by omega) (by omega)).trans h64)) (by decide) (by decide) (by decide) (by decide) (Nat.le_of_ble_eq_true rfl) ?_
      rintro _ g9 ⟨rfl, x9, ⟨fb9, a9, b9, c9⟩, k9⟩
      refine w_eq (st' := []) rfl ?_
      have KK : ∀ q, q < 57 ∨ q = 58 ∨ q = 63 ∨ 65 ≤ q → g9[q]? = h[q]? := fun q hq9 => (k9 q (by omega) (by omega)).trans (K4 q (by omega) (by omega))
      have em9 : mE g9 EE SS := em4.k2 (fun q _ _ => k9 q (by omega) (by omega))
      rw [← hEN]
      refine w_vret d_MO_string_251 rfl ?_
      rw [hres]
      exact pQ_no (hQ.x x9 (htx.k2 (KK 58 (by omega))) em9 ((KK 63 (by omega)).trans h63) a9 ((KK 65 (by omega)).trans h65) (ex_k h66 (KK 66 (by omega))) (ex_k h67 (KK 67 (by omega)))) (fun q hq9 => KK q (by omega)) (fun _ _ => ⟨rfl, rfl⟩)
    · have c121 := bI_t c121
      simp only [Bool.and_eq_true, decide_eq_true_eq] at c121
      have hk5 := k5 c121.1
      have hres := hk5.1
      dsimp only at hres
      rw [if_pos c121.2] at hres
      obtain ⟨ea0, la0, eb0, lb0, ec0, lc0⟩ := hk5.2
      refine w_iload_n d_MO_string_124 rfl ?_
      refine w_if_le (tgt := 132) d_MO_string_125 rfl (fun z => absurd z (by decide)) (fun _ => ?_)
      refine w_iconst (v := nI 1) d_MO_string_128 (by decide) ?_
      refine w_goto (tgt := 133) d_MO_string_129 rfl ?_
      refine w_put d_MO_string_133 f_MO_93 rfl x1 rfl rfl rfl ?_
      refine w_nm (fun h18 e18 => ?_)
      have x1_18 := wS_eq e18 x1
      refine w_aload_n d_MO_string_136 rfl rfl ?_
      refine w_get d_MO_string_137 f_MO_93 x1_18 rfl ?_
      refine w_if_eq (tgt := 158) d_MO_string_140 rfl (fun z => absurd z (by decide)) (fun _ => ?_)
      refine w_iload_n d_MO_string_143 rfl ?_
      refine w_iconst (v := nI 1) d_MO_string_144 (by decide) ?_
      refine w_icmp_ne (tgt := 158) d_MO_string_145 rfl (fun _ => ?_) (fun z => absurd z (by decide))
      refine w_aload_n d_MO_string_158 rfl rfl ?_
      refine w_get d_MO_string_159 f_MO_93 x1_18 rfl ?_
      refine w_if_eq (tgt := 246) d_MO_string_162 rfl (fun z => absurd z (by decide)) (fun _ => ?_)
      refine w_iload_n d_MO_string_165 rfl ?_
      refine w_iconst (v := nI 1) d_MO_string_166 (by decide) ?_
      refine w_icmp_le (tgt := 246) d_MO_string_167 rfl (fun z => absurd z (by decide)) (fun _ => ?_)
      refine w_iload_n d_MO_string_170 rfl ?_
      refine w_topi (y := nI a) ea0 ?_
      refine w_iload_n d_MO_string_171 rfl ?_
      refine w_topi (y := nI b) eb0 ?_
      refine w_iload d_MO_string_172 rfl ?_
      refine w_topi (y := nI c) ec0 ?_
      refine w_iload_n d_MO_string_174 rfl ?_
      refine w_iconst (v := nI 3) d_MO_string_175 (by decide) ?_
      refine w_icmp_ne (tgt := 183) d_MO_string_176 rfl (fun z => absurd (by decide) z) (fun _ => ?_)
      refine w_iconst (v := nI 1) d_MO_string_179 (by decide) ?_
      refine w_goto (tgt := 184) d_MO_string_180 rfl ?_
      refine w_callS (as := [.int (nI a), .int (nI b), .int (nI c), .int (nI 1)]) (st := []) d_MO_string_184 yM_MO_stringOf l_MO_168 sM_MO_stringOf rfl rfl (m_MO_strOf3 la0 lb0 lc0) (by decide) (by decide) (by decide) (by decide) (Nat.le_of_ble_eq_true rfl) ?_
      rintro _ h9_19 ⟨rfl, e9_19⟩
      rw [e9_19]
      refine w_eq (st' := [.long (lN (kOf a b (c + 1) - 4398048608256))]) rfl ?_
      refine w_lstore d_MO_string_187 (by decide) ?_
      refine w_pl (pl' := [some (.ref 57), some (.int (nI 3)), some (.int (va)), some (.int (vb)), some (.int (vc)), some (.long (lN (kOf a b (c + 1) - 4398048608256))), none]) rfl ?_
      refine w_aload_n d_MO_string_189 rfl rfl ?_
      refine w_aload_n d_MO_string_190 rfl rfl ?_
      refine w_callV (as := []) (st := [.ref 57]) d_MO_string_191 yM_MO_level l_MO_152 vM_MO_level x1_18 rfl rfl rfl rfl (m_MO_level x1_18) (by decide) (by decide) (by decide) (by decide) (Nat.le_of_ble_eq_true rfl) ?_
      rintro _ h9_20 ⟨rfl, e9_20⟩
      rw [e9_20]
      refine w_eq (st' := [.int (nI (3 + j)), .ref 57]) rfl ?_
      refine w_lload d_MO_string_194 rfl ?_
      have K4 : ∀ i, i ≠ 57 → h18[i]? = h[i]? := fun i hi => by rw [wS_off e18 (by omega)]; exact K1 i hi
      have hky : sOk (kOf a b (c + 1)) := kOf_ok la0 lb0 (by omega)
      refine w_callV (as := [.int (nI (3 + j)), .long (lN (kOf a b (c + 1) - 4398048608256))]) (st := []) d_MO_string_196 yM_MO_stringMember l_MO_64 vM_MO_stringMember x1_18 rfl rfl rfl rfl (m_MO_strMember (s := kOf a b (c + 1)) x1_18 (hE.keep K4) (t := 3 + j) (by omega) hky (sR_sOk hr.2.1 hI.2.2.1)) (by decide) (by decide) (by decide) (by decide) (Nat.le_of_ble_eq_true rfl) ?_
      rintro _ h9_21 ⟨rfl, e9_21⟩
      rw [e9_21]
      refine w_eq (st' := [.int (bI (decide (kOf a b (c + 1) ∈ SS (3 + j))))]) rfl ?_
      refine w_if_ne (tgt := 246) d_MO_string_199 rfl (fun c199 => ?_) (fun c199 => ?_)
      · have c199 := of_decide_eq_true (bI_t c199)
        refine w_aload_n d_MO_string_246 rfl rfl ?_
        refine w_iconst (v := nI 1) d_MO_string_247 (by decide) ?_
        have K6 : ∀ q, q ≠ 57 → (q < 59 ∨ 63 ≤ q) → h18[q]? = h[q]? := fun q h8 h9 => K4 q h8
        have em6 : mE h18 EE SS := hE.keep K4
        refine w_callV (as := [.int (nI 1)]) (st := []) d_MO_string_248 yM_MO_ended l_MO_156 vM_MO_ended x1_18 rfl rfl rfl rfl (m_MO_ended (g := true) (w9 := nI 1) x1_18 em6 (by omega) ((K6 64 (by omega) (by omega)).trans h64)) (by decide) (by decide) (by decide) (by decide) (Nat.le_of_ble_eq_true rfl) ?_
        rintro _ g9 ⟨rfl, x9, ⟨fb9, a9, b9, c9⟩, k9⟩
        refine w_eq (st' := []) rfl ?_
        have KK : ∀ q, q < 57 ∨ q = 58 ∨ q = 63 ∨ 65 ≤ q → g9[q]? = h[q]? := fun q hq9 => (k9 q (by omega) (by omega)).trans (K6 q (by omega) (by omega))
        have em9 : mE g9 EE SS := em6.k2 (fun q _ _ => k9 q (by omega) (by omega))
        rw [← hEN]
        refine w_vret d_MO_string_251 rfl ?_
        rw [hres]
        refine pQ_put (h9 := h) (EE' := EE) (SS' := SS) (I := ([], [kOf a b (c + 1)])) hR hw x9 (htx.k2 (KK 58 (by omega))) em9 ((KK 63 (by omega)).trans h63) a9 ((KK 65 (by omega)).trans h65) (ex_k h66 (KK 66 (by omega))) (ex_k h67 (KK 67 (by omega))) ?_ ?_ (fun q h1 _ _ => ⟨rfl, rfl⟩) b9 c9 (fun q hq9 => KK q (by omega)) (by omega)
        · rw [hr.1]; exact (eCmb_nil hI.1).symm
        · exact sR_has hr.2.1 c199
      · have c199 := of_decide_eq_false (bI_f c199)
        have hc4 := (K4 61 (by omega)).trans hc
        have hd4 := (K4 62 (by omega)).trans hd
        have ha4 := (K4 59 (by omega)).trans ha
        have hb4 := (K4 60 (by omega)).trans hb
        refine w_aload_n d_MO_string_202 rfl rfl ?_
        refine w_get d_MO_string_203 f_MO_19 x1_18 rfl ?_
        refine w_bipush (v := nI 20) d_MO_string_206 (by decide) ?_
        refine w_aload_n d_MO_string_208 rfl rfl ?_
        refine w_callV (as := []) (st := [.int (nI 20), .ref 61]) d_MO_string_209 yM_MO_level l_MO_152 vM_MO_level x1_18 rfl rfl rfl rfl (m_MO_level x1_18) (by decide) (by decide) (by decide) (by decide) (Nat.le_of_ble_eq_true rfl) ?_
        rintro _ h9_22 ⟨rfl, e9_22⟩
        rw [e9_22]
        refine w_eq (st' := [.int (nI (3 + j)), .int (nI 20), .ref 61]) rfl ?_
        refine w_imul d_MO_string_212 ?_
        refine w_topi (y := nI (20 * (3 + j))) (pk_mul _ _) ?_
        refine w_aload_n d_MO_string_213 rfl rfl ?_
        refine w_get d_MO_string_214 f_MO_23 x1_18 rfl ?_
        refine w_aload_n d_MO_string_217 rfl rfl ?_
        refine w_callV (as := []) (st := [.ref 62, .int (nI (20 * (3 + j))), .ref 61]) d_MO_string_218 yM_MO_level l_MO_152 vM_MO_level x1_18 rfl rfl rfl rfl (m_MO_level x1_18) (by decide) (by decide) (by decide) (by decide) (Nat.le_of_ble_eq_true rfl) ?_
        rintro _ h9_23 ⟨rfl, e9_23⟩
        rw [e9_23]
        refine w_eq (st' := [.int (nI (3 + j)), .ref 62, .int (nI (20 * (3 + j))), .ref 61]) rfl ?_
        refine w_iald d_MO_string_221 hd4 (vp_in_nI (by omega) (by decide)) ?_
        refine w_topi (y := nI (SS (3 + j)).length) (by rw [nI_clamp (by omega)]; exact s2) ?_
        refine w_iadd d_MO_string_222 ?_
        refine w_topi (y := nI (20 * (3 + j) + (SS (3 + j)).length)) (nI_add _ _) ?_
        refine w_lload d_MO_string_223 rfl ?_
        refine w_last d_MO_string_225 hc4 (vp_in_nI (by omega) (by decide)) ?_
        refine w_nm (fun h24 e24 => ?_)
        have x1_24 := wS_ne e24 (by omega) x1_18
        have hc4_24 := wS_eq e24 hc4
        have hd4_24 := wS_ne e24 (by omega) hd4
        have ha4_24 := wS_ne e24 (by omega) ha4
        have hb4_24 := wS_ne e24 (by omega) hb4
        refine w_aload_n d_MO_string_226 rfl rfl ?_
        refine w_get d_MO_string_227 f_MO_23 x1_24 rfl ?_
        refine w_aload_n d_MO_string_230 rfl rfl ?_
        refine w_callV (as := []) (st := [.ref 62]) d_MO_string_231 yM_MO_level l_MO_152 vM_MO_level x1_24 rfl rfl rfl rfl (m_MO_level x1_24) (by decide) (by decide) (by decide) (by decide) (Nat.le_of_ble_eq_true rfl) ?_
        rintro _ h9_25 ⟨rfl, e9_25⟩
        rw [e9_25]
        refine w_eq (st' := [.int (nI (3 + j)), .ref 62]) rfl ?_
        refine w_aload_n d_MO_string_234 rfl rfl ?_
        refine w_get d_MO_string_235 f_MO_23 x1_24 rfl ?_
        refine w_aload_n d_MO_string_238 rfl rfl ?_
        refine w_callV (as := []) (st := [.ref 62, .int (nI (3 + j)), .ref 62]) d_MO_string_239 yM_MO_level l_MO_152 vM_MO_level x1_24 rfl rfl rfl rfl (m_MO_level x1_24) (by decide) (by decide) (by decide) (by decide) (Nat.le_of_ble_eq_true rfl) ?_
        rintro _ h9_26 ⟨rfl, e9_26⟩
        rw [e9_26]
        refine w_eq (st' := [.int (nI (3 + j)), .ref 62, .int (nI (3 + j)), .ref 62]) rfl ?_
        refine w_iald d_MO_string_242 hd4_24 (vp_in_nI (by omega) (by decide)) ?_
        refine w_topi (y := nI (SS (3 + j)).length) (by rw [nI_clamp (by omega)]; exact s2) ?_
        refine w_iconst (v := nI 1) d_MO_string_243 (by decide) ?_
        refine w_iadd d_MO_string_244 ?_
        refine w_topi (y := nI ((SS (3 + j)).length + 1)) (nI_1 _) ?_
        refine w_iast d_MO_string_245 hd4_24 (vp_in_nI (by omega) (by decide)) ?_
        refine w_nm (fun h27 e27 => ?_)
        have x1_27 := wS_ne e27 (by omega) x1_24
        have hc4_27 := wS_ne e27 (by omega) hc4_24
        have hd4_27 := wS_eq e27 hd4_24
        have ha4_27 := wS_ne e27 (by omega) ha4_24
        have hb4_27 := wS_ne e27 (by omega) hb4_24
        refine w_aload_n d_MO_string_246 rfl rfl ?_
        refine w_iconst (v := nI 1) d_MO_string_247 (by decide) ?_
        have K6 : ∀ q, q ≠ 57 → (q < 59 ∨ 63 ≤ q) → h27[q]? = h[q]? := fun q h8 h9 => by rw [wS_off e27 (by omega), wS_off e24 (by omega), wS_off e18 (by omega)]; exact K1 q h8
        have em6 : mE h27 EE (va_up SS (3 + j) (SS (3 + j) ++ [kOf a b (c + 1)])) := by
          have hps := mS_pushS (s := kOf a b (c + 1)) hs (t := 3 + j) (by omega) (by omega)
          have hc9 := hc4_27
          have hd9 := hd4_27
          rw [nI_clamp (by omega)] at hc9 hd9
          exact ⟨_, _, _, _, ha4_27, hb4_27, hc9, hd9, hps⟩
        refine w_callV (as := [.int (nI 1)]) (st := []) d_MO_string_248 yM_MO_ended l_MO_156 vM_MO_ended x1_27 rfl rfl rfl rfl (m_MO_ended (g := true) (w9 := nI 1) x1_27 em6 (by omega) ((K6 64 (by omega) (by omega)).trans h64)) (by decide) (by decide) (by decide) (by decide) (Nat.le_of_ble_eq_true rfl) ?_
        rintro _ g9 ⟨rfl, x9, ⟨fb9, a9, b9, c9⟩, k9⟩
        refine w_eq (st' := []) rfl ?_
        have KK : ∀ q, q < 57 ∨ q = 58 ∨ q = 63 ∨ 65 ≤ q → g9[q]? = h[q]? := fun q hq9 => (k9 q (by omega) (by omega)).trans (K6 q (by omega) (by omega))
        have em9 : mE g9 EE (va_up SS (3 + j) (SS (3 + j) ++ [kOf a b (c + 1)])) := em6.k2 (fun q _ _ => k9 q (by omega) (by omega))
        rw [← hEN]
        refine w_vret d_MO_string_251 rfl ?_
        rw [hres]
        refine pQ_put (h9 := h) (EE' := EE) (I := ([], [kOf a b (c + 1)])) hR hw x9 (htx.k2 (KK 58 (by omega))) em9 ((KK 63 (by omega)).trans h63) a9 ((KK 65 (by omega)).trans h65) (ex_k h66 (KK 66 (by omega))) (ex_k h67 (KK 67 (by omega))) ?_ ?_ (fun q h1 _ _ => ⟨rfl, va_up_ne _ _ h1⟩) b9 c9 (fun q hq9 => KK q (by omega)) (by omega)
        · rw [hr.1]; exact (eCmb_nil hI.1).symm
        · rw [va_up_self]; exact sR_add hr.2.1 c199
  have W3 : ∀ (k : Nat) (h3 : wH) (gq : Bool) (va vb vc : Int32) (a b c : Nat), (h3[57]? = some (.inr (7, [.ref 58, .int (nI t.length), .ref 59, .ref 60, .ref 61, .ref 62, .int (nI k), .int (bI gq), .int (nI (j + 1)), .ref 63, .ref 64, .ref 65, .ref 66, .int (wr), .int (fi), .ref 67]))) → (∀ i, i ≠ 57 → h3[i]? = h[i]?) → (k < 1054) → (gq = true → (x = match pRd t 0 k [a, b, c] with | none => none | some (k, l) => if t[k]? = some 125 then pStF B (j + 1) k l else none) ∧ va = nI a ∧ a < 1114112 ∧ vb = nI b ∧ b < 1114112 ∧ vc = nI c ∧ c < 1114112) → (gq = false → x = none) → WP X M_MO_string (wR 4 0 0) 0 EN 0 0 23 [some (.ref 57), some (.int (nI 3)), some (.int (va)), some (.int (vb)), some (.int (vc)), none, none] [] h3 := by
    intro k h3 gq va vb vc a b c k3 k4 k7 k5 k6
    refine w_aload_n d_MO_string_23 rfl rfl ?_
    refine w_get d_MO_string_24 f_MO_93 k3 rfl ?_
    refine w_if_eq (tgt := 110) d_MO_string_27 rfl (fun c27 => ?_) (fun c27 => ?_)
    · have c27 := bI_f c27
      subst c27
      exact C3 k h3 false va vb vc a b c k3 k4 k7 (fun z => by cases z) k6
    · have c27 := bI_t c27
      subst c27
      refine w_aload_n d_MO_string_30 rfl rfl ?_
      refine w_aload_n d_MO_string_31 rfl rfl ?_
      refine w_get d_MO_string_32 f_MO_86 k3 rfl ?_
      refine w_bipush (v := nI 125) d_MO_string_35 (by decide) ?_
      refine w_callV (as := [.int (nI k), .int (nI 125)]) (st := []) d_MO_string_37 yM_MO_is l_MO_83 vM_MO_is k3 rfl rfl rfl rfl (m_MO_is k3 (htx.keep k4) ht31 (by omega) (by decide)) (by decide) (by decide) (by decide) (by decide) (Nat.le_of_ble_eq_true rfl) ?_
      rintro _ h9_28 ⟨rfl, e9_28⟩
      rw [e9_28]
      refine w_eq (st' := [.int (bI (decide (t[k]? = some 125)))]) rfl ?_
      refine w_if_ne (tgt := 110) d_MO_string_40 rfl (fun c40 => ?_) (fun c40 => ?_)
      · have c40 := of_decide_eq_true (bI_t c40)
        exact C3 k h3 true va vb vc a b c k3 k4 k7 (fun _ => ⟨(k5 rfl).1, (k5 rfl).2⟩) (fun z => by cases z)
      · have c40 := of_decide_eq_false (bI_f c40)
        refine w_iload_n d_MO_string_43 rfl ?_
        refine w_iconst (v := nI 3) d_MO_string_44 (by decide) ?_
        refine w_icmp_ge (tgt := 110) d_MO_string_45 rfl (fun _ => ?_) (fun z => absurd (by decide) z)
        exact C3 k h3 true va vb vc a b c k3 k4 k7 (fun _ => ⟨(k5 rfl).1, (k5 rfl).2⟩) (fun z => by cases z)
  have W2 : ∀ (k : Nat) (h3 : wH) (gq : Bool) (va vb : Int32) (a b : Nat), (h3[57]? = some (.inr (7, [.ref 58, .int (nI t.length), .ref 59, .ref 60, .ref 61, .ref 62, .int (nI k), .int (bI gq), .int (nI (j + 1)), .ref 63, .ref 64, .ref 65, .ref 66, .int (wr), .int (fi), .ref 67]))) → (∀ i, i ≠ 57 → h3[i]? = h[i]?) → (k < 1044) → (gq = true → (x = match pRd t 1 k [a, b] with | none => none | some (k, l) => if t[k]? = some 125 then pStF B (j + 1) k l else none) ∧ va = nI a ∧ a < 1114112 ∧ vb = nI b ∧ b < 1114112) → (gq = false → x = none) → WP X M_MO_string (wR 4 0 0) 0 EN 0 0 23 [some (.ref 57), some (.int (nI 2)), some (.int (va)), some (.int (vb)), some (.int (nI 0)), none, none] [] h3 := by
    intro k h3 gq va vb a b k3 k4 k7 k5 k6
    refine w_aload_n d_MO_string_23 rfl rfl ?_
    refine w_get d_MO_string_24 f_MO_93 k3 rfl ?_
    refine w_if_eq (tgt := 110) d_MO_string_27 rfl (fun c27 => ?_) (fun c27 => ?_)
    · have c27 := bI_f c27
      subst c27
      exact C2 k h3 false va vb a b k3 k4 k7 (fun z => by cases z) k6
    · have c27 := bI_t c27
      subst c27
      refine w_aload_n d_MO_string_30 rfl rfl ?_
      refine w_aload_n d_MO_string_31 rfl rfl ?_
      refine w_get d_MO_string_32 f_MO_86 k3 rfl ?_
      refine w_bipush (v := nI 125) d_MO_string_35 (by decide) ?_
      refine w_callV (as := [.int (nI k), .int (nI 125)]) (st := []) d_MO_string_37 yM_MO_is l_MO_83 vM_MO_is k3 rfl rfl rfl rfl (m_MO_is k3 (htx.keep k4) ht31 (by omega) (by decide)) (by decide) (by decide) (by decide) (by decide) (Nat.le_of_ble_eq_true rfl) ?_
      rintro _ h9_29 ⟨rfl, e9_29⟩
      rw [e9_29]
      refine w_eq (st' := [.int (bI (decide (t[k]? = some 125)))]) rfl ?_
      refine w_if_ne (tgt := 110) d_MO_string_40 rfl (fun c40 => ?_) (fun c40 => ?_)
      · have c40 := of_decide_eq_true (bI_t c40)
        exact C2 k h3 true va vb a b k3 k4 k7 (fun _ => ⟨(k5 rfl).1.trans (by rw [pRd_S, if_pos c40]), (k5 rfl).2⟩) (fun z => by cases z)
      · have c40 := of_decide_eq_false (bI_f c40)
        refine w_iload_n d_MO_string_43 rfl ?_
        refine w_iconst (v := nI 3) d_MO_string_44 (by decide) ?_
        refine w_icmp_ge (tgt := 110) d_MO_string_45 rfl (fun z => absurd z (by decide)) (fun _ => ?_)
        refine w_aload_n d_MO_string_48 rfl rfl ?_
        refine w_callV (as := []) (st := []) d_MO_string_49 yM_MO_readChar l_MO_165 vM_MO_readChar k3 rfl rfl rfl rfl (m_MO_readChar (k := k) k3 (htx.keep k4) ht31 (by omega)) (by decide) (by decide) (by decide) (by decide) (Nat.le_of_ble_eq_true rfl) ?_
        rintro _ g1 ⟨K1, vc, kz, rfl, xa, ba, ca⟩
        refine w_eq (st' := [.int (vc)]) rfl ?_
        have K2 : ∀ i, i ≠ 57 → g1[i]? = h[i]? := fun i hi => (K1 i hi).trans (k4 i hi)
        refine w_istore d_MO_string_52 (by decide) ?_
        refine w_pl (pl' := [some (.ref 57), some (.int (nI 2)), some (.int (va)), some (.int (vb)), some (.int (nI 0)), some (.int (vc)), none]) rfl ?_
        refine w_iload_n d_MO_string_54 rfl ?_
        refine w_if_ne (tgt := 63) d_MO_string_55 rfl (fun _ => ?_) (fun z => absurd z (by decide))
        refine w_iload_n d_MO_string_63 rfl ?_
        refine w_istore_n d_MO_string_64 (by decide) ?_
        refine w_pl (pl' := [some (.ref 57), some (.int (nI 2)), some (.int (va)), some (.int (vb)), some (.int (nI 0)), some (.int (vc)), none]) rfl ?_
        refine w_iload_n d_MO_string_65 rfl ?_
        refine w_iconst (v := nI 1) d_MO_string_66 (by decide) ?_
        refine w_icmp_ne (tgt := 75) d_MO_string_67 rfl (fun _ => ?_) (fun z => absurd z (by decide))
        refine w_iload_n d_MO_string_75 rfl ?_
        refine w_istore_n d_MO_string_76 (by decide) ?_
        refine w_pl (pl' := [some (.ref 57), some (.int (nI 2)), some (.int (va)), some (.int (vb)), some (.int (nI 0)), some (.int (vc)), none]) rfl ?_
        refine w_iload_n d_MO_string_77 rfl ?_
        refine w_iconst (v := nI 2) d_MO_string_78 (by decide) ?_
        refine w_icmp_ne (tgt := 87) d_MO_string_79 rfl (fun z => absurd (by decide) z) (fun _ => ?_)
        refine w_iload d_MO_string_82 rfl ?_
        refine w_goto (tgt := 89) d_MO_string_84 rfl ?_
        refine w_istore d_MO_string_89 (by decide) ?_
        refine w_pl (pl' := [some (.ref 57), some (.int (nI 2)), some (.int (va)), some (.int (vb)), some (.int (vc)), some (.int (vc)), none]) rfl ?_
        refine w_iload_n d_MO_string_91 rfl ?_
        refine w_iconst (v := nI 1) d_MO_string_92 (by decide) ?_
        refine w_iadd d_MO_string_93 ?_
        refine w_topi (y := nI 3) (by decide) ?_
        refine w_istore_n d_MO_string_94 (by decide) ?_
        refine w_pl (pl' := [some (.ref 57), some (.int (nI 3)), some (.int (va)), some (.int (vb)), some (.int (vc)), some (.int (vc)), none]) rfl ?_
        refine w_aload_n d_MO_string_95 rfl rfl ?_
        refine w_aload_n d_MO_string_96 rfl rfl ?_
        refine w_aload_n d_MO_string_97 rfl rfl ?_
        refine w_get d_MO_string_98 f_MO_86 xa rfl ?_
        refine w_callV (as := [.int (nI kz)]) (st := [.ref 57]) d_MO_string_101 yM_MO_pastSpaces l_MO_162 vM_MO_pastSpaces xa rfl rfl rfl rfl (m_MO_past (k := kz) xa (htx.keep K2) ht31 (by omega)) (by decide) (by decide) (by decide) (by decide) (Nat.le_of_ble_eq_true rfl) ?_
        rintro _ h9_30 ⟨rfl, e9_30⟩
        rw [e9_30]
        refine w_eq (st' := [.int (nI (pSp t kz)), .ref 57]) rfl ?_
        refine w_put d_MO_string_104 f_MO_86 rfl xa rfl rfl rfl ?_
        refine w_nm (fun h31 e31 => ?_)
        have xa_31 := wS_eq e31 xa
        refine w_goto (tgt := 23) d_MO_string_107 rfl ?_
        refine w_le (pl' := [some (.ref 57), some (.int (nI 3)), some (.int (va)), some (.int (vb)), some (.int (vc)), none, none]) ⟨rfl, rfl, rfl, rfl, rfl, trivial⟩ ?_
        refine W3 (pSp t kz) h31 (rc t k).isSome va vb vc a b ((rc t k).getD (0, 0)).1 xa_31 (fun i hi => by rw [wS_off e31 (by omega)]; exact K2 i hi) ?_ ?_ ?_
        · have := pSp_b t kz
          by_cases hz : kz ≤ t.length
          · have := this.2 hz; omega
          · unfold pSp; rw [show t.length - kz = 0 by omega]; show kz < _; omega
        · intro z
          obtain ⟨q, hq⟩ := Option.isSome_iff_exists.mp z
          obtain ⟨a9, k9⟩ := q
          have hh := ca _ _ hq
          have ho := rc_ok ht31 hq
          have h5 := k5 rfl
          rw [pRd_S, if_neg c40, hq] at h5
          rw [hq, hh.2]
          exact ⟨h5.1, h5.2.1, h5.2.2.1, h5.2.2.2.1, h5.2.2.2.2, hh.1, ho.1⟩
        · intro z
          have h5 := k5 rfl
          cases hq : rc t k with
          | none => rw [pRd_S, if_neg c40, hq] at h5; exact h5.1
          | some q => rw [hq] at z; cases z
  have W1 : ∀ (k : Nat) (h3 : wH) (gq : Bool) (va : Int32) (a : Nat), (h3[57]? = some (.inr (7, [.ref 58, .int (nI t.length), .ref 59, .ref 60, .ref 61, .ref 62, .int (nI k), .int (bI gq), .int (nI (j + 1)), .ref 63, .ref 64, .ref 65, .ref 66, .int (wr), .int (fi), .ref 67]))) → (∀ i, i ≠ 57 → h3[i]? = h[i]?) → (k < 1034) → (gq = true → (x = match pRd t 2 k [a] with | none => none | some (k, l) => if t[k]? = some 125 then pStF B (j + 1) k l else none) ∧ va = nI a ∧ a < 1114112) → (gq = false → x = none) → WP X M_MO_string (wR 4 0 0) 0 EN 0 0 23 [some (.ref 57), some (.int (nI 1)), some (.int (va)), some (.int (nI 0)), some (.int (nI 0)), none, none] [] h3 := by
    intro k h3 gq va a k3 k4 k7 k5 k6
    refine w_aload_n d_MO_string_23 rfl rfl ?_
    refine w_get d_MO_string_24 f_MO_93 k3 rfl ?_
    refine w_if_eq (tgt := 110) d_MO_string_27 rfl (fun c27 => ?_) (fun c27 => ?_)
    · have c27 := bI_f c27
      subst c27
      exact C1 k h3 false va a k3 k4 k7 (fun z => by cases z) k6
    · have c27 := bI_t c27
      subst c27
      refine w_aload_n d_MO_string_30 rfl rfl ?_
      refine w_aload_n d_MO_string_31 rfl rfl ?_
      refine w_get d_MO_string_32 f_MO_86 k3 rfl ?_
      refine w_bipush (v := nI 125) d_MO_string_35 (by decide) ?_
      refine w_callV (as := [.int (nI k), .int (nI 125)]) (st := []) d_MO_string_37 yM_MO_is l_MO_83 vM_MO_is k3 rfl rfl rfl rfl (m_MO_is k3 (htx.keep k4) ht31 (by omega) (by decide)) (by decide) (by decide) (by decide) (by decide) (Nat.le_of_ble_eq_true rfl) ?_
      rintro _ h9_32 ⟨rfl, e9_32⟩
      rw [e9_32]
      refine w_eq (st' := [.int (bI (decide (t[k]? = some 125)))]) rfl ?_
      refine w_if_ne (tgt := 110) d_MO_string_40 rfl (fun c40 => ?_) (fun c40 => ?_)
      · have c40 := of_decide_eq_true (bI_t c40)
        exact C1 k h3 true va a k3 k4 k7 (fun _ => ⟨(k5 rfl).1.trans (by rw [pRd_S, if_pos c40]), (k5 rfl).2⟩) (fun z => by cases z)
      · have c40 := of_decide_eq_false (bI_f c40)
        refine w_iload_n d_MO_string_43 rfl ?_
        refine w_iconst (v := nI 3) d_MO_string_44 (by decide) ?_
        refine w_icmp_ge (tgt := 110) d_MO_string_45 rfl (fun z => absurd z (by decide)) (fun _ => ?_)
        refine w_aload_n d_MO_string_48 rfl rfl ?_
        refine w_callV (as := []) (st := []) d_MO_string_49 yM_MO_readChar l_MO_165 vM_MO_readChar k3 rfl rfl rfl rfl (m_MO_readChar (k := k) k3 (htx.keep k4) ht31 (by omega)) (by decide) (by decide) (by decide) (by decide) (Nat.le_of_ble_eq_true rfl) ?_
        rintro _ g1 ⟨K1, vb, kz, rfl, xa, ba, ca⟩
        refine w_eq (st' := [.int (vb)]) rfl ?_
        have K2 : ∀ i, i ≠ 57 → g1[i]? = h[i]? := fun i hi => (K1 i hi).trans (k4 i hi)
        refine w_istore d_MO_string_52 (by decide) ?_
        refine w_pl (pl' := [some (.ref 57), some (.int (nI 1)), some (.int (va)), some (.int (nI 0)), some (.int (nI 0)), some (.int (vb)), none]) rfl ?_
        refine w_iload_n d_MO_string_54 rfl ?_
        refine w_if_ne (tgt := 63) d_MO_string_55 rfl (fun _ => ?_) (fun z => absurd z (by decide))
        refine w_iload_n d_MO_string_63 rfl ?_
        refine w_istore_n d_MO_string_64 (by decide) ?_
        refine w_pl (pl' := [some (.ref 57), some (.int (nI 1)), some (.int (va)), some (.int (nI 0)), some (.int (nI 0)), some (.int (vb)), none]) rfl ?_
        refine w_iload_n d_MO_string_65 rfl ?_
        refine w_iconst (v := nI 1) d_MO_string_66 (by decide) ?_
        refine w_icmp_ne (tgt := 75) d_MO_string_67 rfl (fun z => absurd (by decide) z) (fun _ => ?_)
        refine w_iload d_MO_string_70 rfl ?_
        refine w_goto (tgt := 76) d_MO_string_72 rfl ?_
        refine w_istore_n d_MO_string_76 (by decide) ?_
        refine w_pl (pl' := [some (.ref 57), some (.int (nI 1)), some (.int (va)), some (.int (vb)), some (.int (nI 0)), some (.int (vb)), none]) rfl ?_
        refine w_iload_n d_MO_string_77 rfl ?_
        refine w_iconst (v := nI 2) d_MO_string_78 (by decide) ?_
        refine w_icmp_ne (tgt := 87) d_MO_string_79 rfl (fun _ => ?_) (fun z => absurd z (by decide))
        refine w_iload d_MO_string_87 rfl ?_
        refine w_istore d_MO_string_89 (by decide) ?_
        refine w_pl (pl' := [some (.ref 57), some (.int (nI 1)), some (.int (va)), some (.int (vb)), some (.int (nI 0)), some (.int (vb)), none]) rfl ?_
        refine w_iload_n d_MO_string_91 rfl ?_
        refine w_iconst (v := nI 1) d_MO_string_92 (by decide) ?_
        refine w_iadd d_MO_string_93 ?_
        refine w_topi (y := nI 2) (by decide) ?_
        refine w_istore_n d_MO_string_94 (by decide) ?_
        refine w_pl (pl' := [some (.ref 57), some (.int (nI 2)), some (.int (va)), some (.int (vb)), some (.int (nI 0)), some (.int (vb)), none]) rfl ?_
        refine w_aload_n d_MO_string_95 rfl rfl ?_
        refine w_aload_n d_MO_string_96 rfl rfl ?_
        refine w_aload_n d_MO_string_97 rfl rfl ?_
        refine w_get d_MO_string_98 f_MO_86 xa rfl ?_
        refine w_callV (as := [.int (nI kz)]) (st := [.ref 57]) d_MO_string_101 yM_MO_pastSpaces l_MO_162 vM_MO_pastSpaces xa rfl rfl rfl rfl (m_MO_past (k := kz) xa (htx.keep K2) ht31 (by omega)) (by decide) (by decide) (by decide) (by decide) (Nat.le_of_ble_eq_true rfl) ?_
        rintro _ h9_33 ⟨rfl, e9_33⟩
        rw [e9_33]
        refine w_eq (st' := [.int (nI (pSp t kz)), .ref 57]) rfl ?_
        refine w_put d_MO_string_104 f_MO_86 rfl xa rfl rfl rfl ?_
        refine w_nm (fun h34 e34 => ?_)
        have xa_34 := wS_eq e34 xa
        refine w_goto (tgt := 23) d_MO_string_107 rfl ?_
        refine w_le (pl' := [some (.ref 57), some (.int (nI 2)), some (.int (va)), some (.int (vb)), some (.int (nI 0)), none, none]) ⟨rfl, rfl, rfl, rfl, rfl, trivial⟩ ?_
        refine W2 (pSp t kz) h34 (rc t k).isSome va vb a ((rc t k).getD (0, 0)).1 xa_34 (fun i hi => by rw [wS_off e34 (by omega)]; exact K2 i hi) ?_ ?_ ?_
        · have := pSp_b t kz
          by_cases hz : kz ≤ t.length
          · have := this.2 hz; omega
          · unfold pSp; rw [show t.length - kz = 0 by omega]; show kz < _; omega
        · intro z
          obtain ⟨q, hq⟩ := Option.isSome_iff_exists.mp z
          obtain ⟨a9, k9⟩ := q
          have hh := ca _ _ hq
          have ho := rc_ok ht31 hq
          have h5 := k5 rfl
          rw [pRd_S, if_neg c40, hq] at h5
          rw [hq, hh.2]
          exact ⟨h5.1, h5.2.1, h5.2.2, hh.1, ho.1⟩
        · intro z
          have h5 := k5 rfl
          cases hq : rc t k with
          | none => rw [pRd_S, if_neg c40, hq] at h5; exact h5.1
          | some q => rw [hq] at z; cases z
  have W0 : ∀ (k : Nat) (h3 : wH) (gq : Bool), (h3[57]? = some (.inr (7, [.ref 58, .int (nI t.length), .ref 59, .ref 60, .ref 61, .ref 62, .int (nI k), .int (bI gq), .int (nI (j + 1)), .ref 63, .ref 64, .ref 65, .ref 66, .int (wr), .int (fi), .ref 67]))) → (∀ i, i ≠ 57 → h3[i]? = h[i]?) → (k < 1024) → (gq = true → (x = match pRd t 3 k [] with | none => none | some (k, l) => if t[k]? = some 125 then pStF B (j + 1) k l else none)) → (gq = false → x = none) → WP X M_MO_string (wR 4 0 0) 0 EN 0 0 23 [some (.ref 57), some (.int (nI 0)), some (.int (nI 0)), some (.int (nI 0)), some (.int (nI 0)), none, none] [] h3 := by
    intro k h3 gq k3 k4 k7 k5 k6
    refine w_aload_n d_MO_string_23 rfl rfl ?_
    refine w_get d_MO_string_24 f_MO_93 k3 rfl ?_
    refine w_if_eq (tgt := 110) d_MO_string_27 rfl (fun c27 => ?_) (fun c27 => ?_)
    · have c27 := bI_f c27
      subst c27
      exact C0 k h3 false   k3 k4 k7 (fun z => by cases z) k6
    · have c27 := bI_t c27
      subst c27
      refine w_aload_n d_MO_string_30 rfl rfl ?_
      refine w_aload_n d_MO_string_31 rfl rfl ?_
      refine w_get d_MO_string_32 f_MO_86 k3 rfl ?_
      refine w_bipush (v := nI 125) d_MO_string_35 (by decide) ?_
      refine w_callV (as := [.int (nI k), .int (nI 125)]) (st := []) d_MO_string_37 yM_MO_is l_MO_83 vM_MO_is k3 rfl rfl rfl rfl (m_MO_is k3 (htx.keep k4) ht31 (by omega) (by decide)) (by decide) (by decide) (by decide) (by decide) (Nat.le_of_ble_eq_true rfl) ?_
      rintro _ h9_35 ⟨rfl, e9_35⟩
      rw [e9_35]
      refine w_eq (st' := [.int (bI (decide (t[k]? = some 125)))]) rfl ?_
      refine w_if_ne (tgt := 110) d_MO_string_40 rfl (fun c40 => ?_) (fun c40 => ?_)
      · have c40 := of_decide_eq_true (bI_t c40)
        exact C0 k h3 true   k3 k4 k7 (fun _ => (k5 rfl).trans (by rw [pRd_S, if_pos c40])) (fun z => by cases z)
      · have c40 := of_decide_eq_false (bI_f c40)
        refine w_iload_n d_MO_string_43 rfl ?_
        refine w_iconst (v := nI 3) d_MO_string_44 (by decide) ?_
        refine w_icmp_ge (tgt := 110) d_MO_string_45 rfl (fun z => absurd z (by decide)) (fun _ => ?_)
        refine w_aload_n d_MO_string_48 rfl rfl ?_
        refine w_callV (as := []) (st := []) d_MO_string_49 yM_MO_readChar l_MO_165 vM_MO_readChar k3 rfl rfl rfl rfl (m_MO_readChar (k := k) k3 (htx.keep k4) ht31 (by omega)) (by decide) (by decide) (by decide) (by decide) (Nat.le_of_ble_eq_true rfl) ?_
        rintro _ g1 ⟨K1, va, kz, rfl, xa, ba, ca⟩
        refine w_eq (st' := [.int (va)]) rfl ?_
        have K2 : ∀ i, i ≠ 57 → g1[i]? = h[i]? := fun i hi => (K1 i hi).trans (k4 i hi)
        refine w_istore d_MO_string_52 (by decide) ?_
        refine w_pl (pl' := [some (.ref 57), some (.int (nI 0)), some (.int (nI 0)), some (.int (nI 0)), some (.int (nI 0)), some (.int (va)), none]) rfl ?_
        refine w_iload_n d_MO_string_54 rfl ?_
        refine w_if_ne (tgt := 63) d_MO_string_55 rfl (fun z => absurd (by decide) z) (fun _ => ?_)
        refine w_iload d_MO_string_58 rfl ?_
        refine w_goto (tgt := 64) d_MO_string_60 rfl ?_
        refine w_istore_n d_MO_string_64 (by decide) ?_
        refine w_pl (pl' := [some (.ref 57), some (.int (nI 0)), some (.int (va)), some (.int (nI 0)), some (.int (nI 0)), some (.int (va)), none]) rfl ?_
        refine w_iload_n d_MO_string_65 rfl ?_
        refine w_iconst (v := nI 1) d_MO_string_66 (by decide) ?_
        refine w_icmp_ne (tgt := 75) d_MO_string_67 rfl (fun _ => ?_) (fun z => absurd z (by decide))
        refine w_iload_n d_MO_string_75 rfl ?_
        refine w_istore_n d_MO_string_76 (by decide) ?_
        refine w_pl (pl' := [some (.ref 57), some (.int (nI 0)), some (.int (va)), some (.int (nI 0)), some (.int (nI 0)), some (.int (va)), none]) rfl ?_
        refine w_iload_n d_MO_string_77 rfl ?_
        refine w_iconst (v := nI 2) d_MO_string_78 (by decide) ?_
        refine w_icmp_ne (tgt := 87) d_MO_string_79 rfl (fun _ => ?_) (fun z => absurd z (by decide))
        refine w_iload d_MO_string_87 rfl ?_
        refine w_istore d_MO_string_89 (by decide) ?_
        refine w_pl (pl' := [some (.ref 57), some (.int (nI 0)), some (.int (va)), some (.int (nI 0)), some (.int (nI 0)), some (.int (va)), none]) rfl ?_
        refine w_iload_n d_MO_string_91 rfl ?_
        refine w_iconst (v := nI 1) d_MO_string_92 (by decide) ?_
        refine w_iadd d_MO_string_93 ?_
        refine w_topi (y := nI 1) (by decide) ?_
        refine w_istore_n d_MO_string_94 (by decide) ?_
        refine w_pl (pl' := [some (.ref 57), some (.int (nI 1)), some (.int (va)), some (.int (nI 0)), some (.int (nI 0)), some (.int (va)), none]) rfl ?_
        refine w_aload_n d_MO_string_95 rfl rfl ?_
        refine w_aload_n d_MO_string_96 rfl rfl ?_
        refine w_aload_n d_MO_string_97 rfl rfl ?_
        refine w_get d_MO_string_98 f_MO_86 xa rfl ?_
        refine w_callV (as := [.int (nI kz)]) (st := [.ref 57]) d_MO_string_101 yM_MO_pastSpaces l_MO_162 vM_MO_pastSpaces xa rfl rfl rfl rfl (m_MO_past (k := kz) xa (htx.keep K2) ht31 (by omega)) (by decide) (by decide) (by decide) (by decide) (Nat.le_of_ble_eq_true rfl) ?_
        rintro _ h9_36 ⟨rfl, e9_36⟩
        rw [e9_36]
        refine w_eq (st' := [.int (nI (pSp t kz)), .ref 57]) rfl ?_
        refine w_put d_MO_string_104 f_MO_86 rfl xa rfl rfl rfl ?_
        refine w_nm (fun h37 e37 => ?_)
        have xa_37 := wS_eq e37 xa
        refine w_goto (tgt := 23) d_MO_string_107 rfl ?_
        refine w_le (pl' := [some (.ref 57), some (.int (nI 1)), some (.int (va)), some (.int (nI 0)), some (.int (nI 0)), none, none]) ⟨rfl, rfl, rfl, rfl, rfl, trivial⟩ ?_
        refine W1 (pSp t kz) h37 (rc t k).isSome va  ((rc t k).getD (0, 0)).1 xa_37 (fun i hi => by rw [wS_off e37 (by omega)]; exact K2 i hi) ?_ ?_ ?_
        · have := pSp_b t kz
          by_cases hz : kz ≤ t.length
          · have := this.2 hz; omega
          · unfold pSp; rw [show t.length - kz = 0 by omega]; show kz < _; omega
        · intro z
          obtain ⟨q, hq⟩ := Option.isSome_iff_exists.mp z
          obtain ⟨a9, k9⟩ := q
          have hh := ca _ _ hq
          have ho := rc_ok ht31 hq
          have h5 := k5 rfl
          rw [pRd_S, if_neg c40, hq] at h5
          rw [hq, hh.2]
          exact ⟨h5, hh.1, ho.1⟩
        · intro z
          have h5 := k5 rfl
          cases hq : rc t k with
          | none => rw [pRd_S, if_neg c40, hq] at h5; exact h5
          | some q => rw [hq] at z; cases z
  refine w_aload_n d_MO_string_0 rfl rfl ?_
  refine w_aload_n d_MO_string_1 rfl rfl ?_
  refine w_aload_n d_MO_string_2 rfl rfl ?_
  refine w_get d_MO_string_3 f_MO_86 hx rfl ?_
  refine w_iconst (v := nI 1) d_MO_string_6 (by decide) ?_
  refine w_iadd d_MO_string_7 ?_
  refine w_topi (y := nI (p + 1)) (nI_1 _) ?_
  refine w_callV (as := [.int (nI (p + 1))]) (st := [.ref 57]) d_MO_string_8 yM_MO_pastSpaces l_MO_162 vM_MO_pastSpaces hx rfl rfl rfl rfl (m_MO_past hx htx ht31 (by omega)) (by decide) (by decide) (by decide) (by decide) (Nat.le_of_ble_eq_true rfl) ?_
  rintro _ h9_38 ⟨rfl, e9_38⟩
  rw [e9_38]
  refine w_eq (st' := [.int (nI (pSp t (p + 1))), .ref 57]) rfl ?_
  refine w_put d_MO_string_11 f_MO_86 rfl hx rfl rfl rfl ?_
  refine w_nm (fun h39 e39 => ?_)
  have hx_39 := wS_eq e39 hx
  have h63_39 := wS_ne e39 (by omega) h63
  have h64_39 := wS_ne e39 (by omega) h64
  have h65_39 := wS_ne e39 (by omega) h65
  refine w_iconst (v := nI 0) d_MO_string_14 (by decide) ?_
  refine w_istore_n d_MO_string_15 (by decide) ?_
  refine w_pl (pl' := [some (.ref 57), some (.int (nI 0)), none, none, none, none, none]) rfl ?_
  refine w_iconst (v := nI 0) d_MO_string_16 (by decide) ?_
  refine w_istore_n d_MO_string_17 (by decide) ?_
  refine w_pl (pl' := [some (.ref 57), some (.int (nI 0)), some (.int (nI 0)), none, none, none, none]) rfl ?_
  refine w_iconst (v := nI 0) d_MO_string_18 (by decide) ?_
  refine w_istore_n d_MO_string_19 (by decide) ?_
  refine w_pl (pl' := [some (.ref 57), some (.int (nI 0)), some (.int (nI 0)), some (.int (nI 0)), none, none, none]) rfl ?_
  refine w_iconst (v := nI 0) d_MO_string_20 (by decide) ?_
  refine w_istore d_MO_string_21 (by decide) ?_
  refine w_pl (pl' := [some (.ref 57), some (.int (nI 0)), some (.int (nI 0)), some (.int (nI 0)), some (.int (nI 0)), none, none]) rfl ?_
  exact W0 (pSp t (p + 1)) h39 true hx_39 (fun i hi => by rw [wS_off e39 (by omega)]) (by have := pSp_b t (p + 1); omega) (fun _ => hx0) (fun z => by cases z)
end MO16
