/-! the reference's properties: written by wip/gen/mo11.py -/
theorem pw_app {E : List Nat} {a c : Nat} (hE : eOk E) (hev : E.length % 2 = 0) (hlt : ∀ x ∈ E, x < a) (hac : a ≤ c) (hc : c < 1114112) : eCmb 0 E [a, c + 1] = E ++ [a, c + 1] := by
  refine (eCmb_eq hE (iOk_ran hac hc).1 ?_ (fun x => ?_)).symm
  · show List.Pairwise (· < ·) _
    rw [List.pairwise_append]
    refine ⟨hE.1, (iOk_ran hac hc).1.1, fun x hx y hy => ?_⟩
    have h1 := hlt x hx
    have hy : y = a ∨ y = c + 1 := by
      have := List.mem_cons.mp hy
      rw [List.mem_singleton] at this
      exact this
    omega
  · show _ = (eMem E x || eMem [a, c + 1] x)
    rw [eMem_ran hac]
    have hm : eMem (E ++ [a, c + 1]) x = (decide ((eCnt E x + eCnt [a, c + 1] x) % 2 = 1)) := by
      unfold eMem
      rw [eCnt_append]
      rfl
    have hm2 : eMem E x = decide (eCnt E x % 2 = 1) := rfl
    rw [hm, hm2]
    have h2 : eCnt [a, c + 1] x = (if a ≤ x then 1 else 0) + ((if c + 1 ≤ x then 1 else 0) + 0) := by rw [eCnt_cons, eCnt_cons]; rfl
    rw [h2]
    by_cases hx : a ≤ x
    · have h3 : eCnt E x = E.length := eCnt_high (fun e he => by have := hlt e he; omega)
      rw [h3, if_pos hx]
      by_cases h4 : c + 1 ≤ x
      · rw [if_pos h4, decide_eq_false (by omega), decide_eq_false (by omega), decide_eq_false (by omega)]; rfl
      · rw [if_neg h4, decide_eq_true (by omega), decide_eq_false (by omega), decide_eq_true (by omega)]; rfl
    · rw [if_neg hx, if_neg (by omega), decide_eq_false (p := a ≤ x ∧ x ≤ c) (by omega), Bool.or_false]
      congr 1
/-- a word of letters as a number -/
def wdN (l : List Nat) : Nat := l.foldl (fun w x => w * 128 + x) 0
theorem wdN_app (l : List Nat) (x : Nat) : wdN (l ++ [x]) = wdN l * 128 + x := by unfold wdN; rw [List.foldl_append]; rfl
theorem wdN_lt (l : List Nat) (h : ∀ x ∈ l, x < 128) : wdN l < 128 ^ l.length := by
  have go : ∀ (n : Nat) (l : List Nat), l.length = n → (∀ x ∈ l, x < 128) → wdN l < 128 ^ l.length := by
    intro n
    induction n with
    | zero =>
      intro l hl _
      have : l = [] := List.length_eq_zero_iff.mp hl
      subst this
      decide
    | succ n ih =>
      intro l hl h
      rcases List.eq_nil_or_concat l with rfl | ⟨l1, x, rfl⟩
      · cases hl
      · simp only [List.concat_eq_append] at *
        rw [List.length_append, List.length_singleton] at hl
        have h1 := ih l1 (by omega) (fun y hy => h y (List.mem_append_left _ hy))
        have h2 := h x (List.mem_append_right _ (List.mem_singleton.mpr rfl))
        rw [wdN_app, List.length_append, List.length_singleton, Nat.pow_succ]
        omega
  exact go _ l rfl h
theorem wdN_inj : ∀ (n : Nat) (l m : List Nat), l.length ≤ n → (∀ x ∈ l, 1 ≤ x ∧ x < 128) → (∀ x ∈ m, 1 ≤ x ∧ x < 128) → wdN l = wdN m → l = m
  | 0, l, m, hn, hl, hm, h => by
    have : l = [] := List.length_eq_zero_iff.mp (by omega)
    subst this
    rcases List.eq_nil_or_concat m with rfl | ⟨m1, y, rfl⟩
    · rfl
    · have h2 := hm y (by simp)
      rw [List.concat_eq_append, wdN_app] at h
      have : wdN [] = 0 := rfl
      omega
  | n + 1, l, m, hn, hl, hm, h => by
    rcases List.eq_nil_or_concat l with rfl | ⟨l1, x, rfl⟩
    · rcases List.eq_nil_or_concat m with rfl | ⟨m1, y, rfl⟩
      · rfl
      · have h2 := hm y (by simp)
        rw [List.concat_eq_append, wdN_app] at h
        have : wdN [] = 0 := rfl
        omega
    · have h1 := hl x (by simp)
      rcases List.eq_nil_or_concat m with rfl | ⟨m1, y, rfl⟩
      · rw [List.concat_eq_append, wdN_app] at h
        have : wdN [] = 0 := rfl
        omega
      · have h2 := hm y (by simp)
        simp only [List.concat_eq_append] at *
        rw [wdN_app, wdN_app] at h
        rw [List.length_append, List.length_singleton] at hn
        have h3 : x = y := by omega
        subst h3
        rw [wdN_inj n l1 m1 (by omega) (fun z hz => hl z (List.mem_append_left _ hz)) (fun z hz => hm z (List.mem_append_left _ hz)) (by omega)]
theorem nmL_1 : ∀ i, i < 10 → ∀ x ∈ nmL.getD i [], 1 ≤ x ∧ x < 128 := by decide
theorem nmN_no {l : List Nat} (h : nmN l = -1) : ∀ i, i < 10 → l ≠ nmL.getD i [] := by
  unfold nmN at h
  iterate 10 (split at h; (· exact absurd h (by decide)))
  intro i hi
  rcases i with _ | _ | _ | _ | _ | _ | _ | _ | _ | _ | i <;> first | assumption | omega
theorem nmN_at : ∀ i, i < 10 → nmN (nmL.getD i []) = nI i := by decide
theorem wd_lg {l : List Nat} {c : Nat} (h9 : l.length ≤ 9) (hl : ∀ x ∈ l, 1 ≤ x ∧ x < 128) (hc : c < 2 ^ 63) (hne : wdN l ≠ c) : ¬ lg_cmp (lN (wdN l)) (lN c) = 0 := by
  intro z
  have h1 := wdN_lt l (fun x hx => (hl x hx).2)
  have h2 : 128 ^ l.length ≤ 128 ^ 9 := Nat.pow_le_pow_right (by decide) h9
  exact hne ((pk_lEQ (by omega) hc).mp (lg_cmp_0 z))
theorem wd_ne {l : List Nat} (hl : ∀ x ∈ l, 1 ≤ x ∧ x < 128) (h : nmN l = -1) {i : Nat} (hi : i < 10) : wdN l ≠ wdN (nmL.getD i []) := fun z => nmN_no h i hi (wdN_inj l.length _ _ (Nat.le_refl _) hl (nmL_1 i hi) z)
theorem mE.keep {h h' : wH} {EE SS : Nat → List Nat} (a : mE h EE SS) (c : ∀ j, j ≠ 57 → h'[j]? = h[j]?) : mE h' EE SS := by
  obtain ⟨ef, cf, sf, nf, h1, h2, h3, h4, h5⟩ := a
  exact ⟨ef, cf, sf, nf, (c _ (by omega)).trans h1, (c _ (by omega)).trans h2, (c _ (by omega)).trans h3, (c _ (by omega)).trans h4, h5⟩
section MO11
variable {X : wX}
set_option maxHeartbeats 4000000 in
set_option maxRecDepth 100000 in
theorem m_MO_fillLetters {h : wH} {sz ap gd dp wr fi : Int32} (hx : h[57]? = some (.inr (7, [.ref 58, .int (sz), .ref 59, .ref 60, .ref 61, .ref 62, .int (ap), .int (gd), .int (dp), .ref 63, .ref 64, .ref 65, .ref 66, .int (wr), .int (fi), .ref 67]))) {EE SS : Nat → List Nat} (hE : mE h EE SS) (he : EE 8 = []) (hse : SS 8 = []) : PM X M_MO_fillLetters 4 0 0 [.ref 57] h (fun z h' => z = none ∧ wOff h h' 59 4 ∧ ∃ EE' SS' : Nat → List Nat, mE h' EE' SS' ∧ EE' 8 = tabL.getD 6 [] ∧ SS' 8 = [] ∧ ∀ j, j < 8 ∨ j = 11 → EE' j = EE j ∧ SS' j = SS j) := by
  refine PM.at (pl := [some (.ref 57)]) rfl rfl (by simp [wle, wen]) ?_
  generalize hEN : wEm X 0 0 _ = EN
  refine w_aload_n d_MO_fillLetters_0 rfl rfl ?_
  refine w_bipush (v := nI 8) d_MO_fillLetters_1 (by decide) ?_
  refine w_bipush (v := nI 65) d_MO_fillLetters_3 (by decide) ?_
  refine w_bipush (v := nI 90) d_MO_fillLetters_5 (by decide) ?_
  refine w_callV (as := [.int (nI 8), .int (nI 65), .int (nI 90)]) (st := []) d_MO_fillLetters_7 yM_MO_addRange l_MO_123 vM_MO_addRange hx rfl rfl rfl rfl (m_MO_addRange (t := 8) (a := 65) (c := 90) hx hE (by decide) (by decide) (by decide) (by decide) (by decide) (by rw [he]; exact ⟨(by unfold eAsc; decide), (by decide)⟩) (by rw [he]; decide) (by rw [hse]; intro y hy; cases hy)) (by decide) (by decide) (by decide) (by decide) (Nat.le_of_ble_eq_true rfl) ?_
  rintro _ g1 ⟨rfl, o1, F1, T1, E1, p1, u1, k1⟩
  refine w_eq (st' := []) rfl ?_
  have x1 := (o1 57 (by omega)).trans hx
  have O1 := o1
  have q1 : F1 8 = [65, 91] := by rw [p1, he]; exact pw_app ⟨(by unfold eAsc; decide), (by decide)⟩ (by decide) (by decide) (by decide) (by decide)
  have r1 : T1 8 = [] := u1.trans hse
  have K1 : ∀ j, j < 8 ∨ j = 11 → F1 j = EE j ∧ T1 j = SS j := fun j hj => k1 j (by omega) (by omega) (by omega)
  refine w_aload_n d_MO_fillLetters_10 rfl rfl ?_
  refine w_bipush (v := nI 8) d_MO_fillLetters_11 (by decide) ?_
  refine w_bipush (v := nI 97) d_MO_fillLetters_13 (by decide) ?_
  refine w_bipush (v := nI 122) d_MO_fillLetters_15 (by decide) ?_
  refine w_callV (as := [.int (nI 8), .int (nI 97), .int (nI 122)]) (st := []) d_MO_fillLetters_17 yM_MO_addRange l_MO_123 vM_MO_addRange x1 rfl rfl rfl rfl (m_MO_addRange (t := 8) (a := 97) (c := 122) x1 E1 (by decide) (by decide) (by decide) (by decide) (by decide) (by rw [q1]; exact ⟨(by unfold eAsc; decide), (by decide)⟩) (by rw [q1]; decide) (by rw [r1]; intro y hy; cases hy)) (by decide) (by decide) (by decide) (by decide) (Nat.le_of_ble_eq_true rfl) ?_
  rintro _ g2 ⟨rfl, o2, F2, T2, E2, p2, u2, k2⟩
  refine w_eq (st' := []) rfl ?_
  have x2 := (o2 57 (by omega)).trans x1
  have O2 := O1.tr o2
  have q2 : F2 8 = [65, 91, 97, 123] := by rw [p2, q1]; exact pw_app ⟨(by unfold eAsc; decide), (by decide)⟩ (by decide) (by decide) (by decide) (by decide)
  have r2 : T2 8 = [] := u2.trans r1
  have K2 : ∀ j, j < 8 ∨ j = 11 → F2 j = EE j ∧ T2 j = SS j := fun j hj => ⟨(k2 j (by omega) (by omega) (by omega)).1.trans (K1 j hj).1, (k2 j (by omega) (by omega) (by omega)).2.trans (K1 j hj).2⟩
  refine w_aload_n d_MO_fillLetters_20 rfl rfl ?_
  refine w_bipush (v := nI 8) d_MO_fillLetters_21 (by decide) ?_
  refine w_sipush (v := nI 170) d_MO_fillLetters_23 (by decide) ?_
  refine w_sipush (v := nI 170) d_MO_fillLetters_26 (by decide) ?_
  refine w_callV (as := [.int (nI 8), .int (nI 170), .int (nI 170)]) (st := []) d_MO_fillLetters_29 yM_MO_addRange l_MO_123 vM_MO_addRange x2 rfl rfl rfl rfl (m_MO_addRange (t := 8) (a := 170) (c := 170) x2 E2 (by decide) (by decide) (by decide) (by decide) (by decide) (by rw [q2]; exact ⟨(by unfold eAsc; decide), (by decide)⟩) (by rw [q2]; decide) (by rw [r2]; intro y hy; cases hy)) (by decide) (by decide) (by decide) (by decide) (Nat.le_of_ble_eq_true rfl) ?_
  rintro _ g3 ⟨rfl, o3, F3, T3, E3, p3, u3, k3⟩
  refine w_eq (st' := []) rfl ?_
  have x3 := (o3 57 (by omega)).trans x2
  have O3 := O2.tr o3
  have q3 : F3 8 = [65, 91, 97, 123, 170, 171] := by rw [p3, q2]; exact pw_app ⟨(by unfold eAsc; decide), (by decide)⟩ (by decide) (by decide) (by decide) (by decide)
  have r3 : T3 8 = [] := u3.trans r2
  have K3 : ∀ j, j < 8 ∨ j = 11 → F3 j = EE j ∧ T3 j = SS j := fun j hj => ⟨(k3 j (by omega) (by omega) (by omega)).1.trans (K2 j hj).1, (k3 j (by omega) (by omega) (by omega)).2.trans (K2 j hj).2⟩
  refine w_aload_n d_MO_fillLetters_32 rfl rfl ?_
  refine w_bipush (v := nI 8) d_MO_fillLetters_33 (by decide) ?_
  refine w_sipush (v := nI 181) d_MO_fillLetters_35 (by decide) ?_
  refine w_sipush (v := nI 181) d_MO_fillLetters_38 (by decide) ?_
  refine w_callV (as := [.int (nI 8), .int (nI 181), .int (nI 181)]) (st := []) d_MO_fillLetters_41 yM_MO_addRange l_MO_123 vM_MO_addRange x3 rfl rfl rfl rfl (m_MO_addRange (t := 8) (a := 181) (c := 181) x3 E3 (by decide) (by decide) (by decide) (by decide) (by decide) (by rw [q3]; exact ⟨(by unfold eAsc; decide), (by decide)⟩) (by rw [q3]; decide) (by rw [r3]; intro y hy; cases hy)) (by decide) (by decide) (by decide) (by decide) (Nat.le_of_ble_eq_true rfl) ?_
  rintro _ g4 ⟨rfl, o4, F4, T4, E4, p4, u4, k4⟩
  refine w_eq (st' := []) rfl ?_
  have x4 := (o4 57 (by omega)).trans x3
  have O4 := O3.tr o4
  have q4 : F4 8 = [65, 91, 97, 123, 170, 171, 181, 182] := by rw [p4, q3]; exact pw_app ⟨(by unfold eAsc; decide), (by decide)⟩ (by decide) (by decide) (by decide) (by decide)
  have r4 : T4 8 = [] := u4.trans r3
  have K4 : ∀ j, j < 8 ∨ j = 11 → F4 j = EE j ∧ T4 j = SS j := fun j hj => ⟨(k4 j (by omega) (by omega) (by omega)).1.trans (K3 j hj).1, (k4 j (by omega) (by omega) (by omega)).2.trans (K3 j hj).2⟩
  refine w_aload_n d_MO_fillLetters_44 rfl rfl ?_
  refine w_bipush (v := nI 8) d_MO_fillLetters_45 (by decide) ?_
  refine w_sipush (v := nI 186) d_MO_fillLetters_47 (by decide) ?_
  refine w_sipush (v := nI 186) d_MO_fillLetters_50 (by decide) ?_
  refine w_callV (as := [.int (nI 8), .int (nI 186), .int (nI 186)]) (st := []) d_MO_fillLetters_53 yM_MO_addRange l_MO_123 vM_MO_addRange x4 rfl rfl rfl rfl (m_MO_addRange (t := 8) (a := 186) (c := 186) x4 E4 (by decide) (by decide) (by decide) (by decide) (by decide) (by rw [q4]; exact ⟨(by unfold eAsc; decide), (by decide)⟩) (by rw [q4]; decide) (by rw [r4]; intro y hy; cases hy)) (by decide) (by decide) (by decide) (by decide) (Nat.le_of_ble_eq_true rfl) ?_
  rintro _ g5 ⟨rfl, o5, F5, T5, E5, p5, u5, k5⟩
  refine w_eq (st' := []) rfl ?_
  have x5 := (o5 57 (by omega)).trans x4
  have O5 := O4.tr o5
  have q5 : F5 8 = [65, 91, 97, 123, 170, 171, 181, 182, 186, 187] := by rw [p5, q4]; exact pw_app ⟨(by unfold eAsc; decide), (by decide)⟩ (by decide) (by decide) (by decide) (by decide)
  have r5 : T5 8 = [] := u5.trans r4
  have K5 : ∀ j, j < 8 ∨ j = 11 → F5 j = EE j ∧ T5 j = SS j := fun j hj => ⟨(k5 j (by omega) (by omega) (by omega)).1.trans (K4 j hj).1, (k5 j (by omega) (by omega) (by omega)).2.trans (K4 j hj).2⟩
  refine w_aload_n d_MO_fillLetters_56 rfl rfl ?_
  refine w_bipush (v := nI 8) d_MO_fillLetters_57 (by decide) ?_
  refine w_sipush (v := nI 192) d_MO_fillLetters_59 (by decide) ?_
  refine w_sipush (v := nI 214) d_MO_fillLetters_62 (by decide) ?_
  refine w_callV (as := [.int (nI 8), .int (nI 192), .int (nI 214)]) (st := []) d_MO_fillLetters_65 yM_MO_addRange l_MO_123 vM_MO_addRange x5 rfl rfl rfl rfl (m_MO_addRange (t := 8) (a := 192) (c := 214) x5 E5 (by decide) (by decide) (by decide) (by decide) (by decide) (by rw [q5]; exact ⟨(by unfold eAsc; decide), (by decide)⟩) (by rw [q5]; decide) (by rw [r5]; intro y hy; cases hy)) (by decide) (by decide) (by decide) (by decide) (Nat.le_of_ble_eq_true rfl) ?_
  rintro _ g6 ⟨rfl, o6, F6, T6, E6, p6, u6, k6⟩
  refine w_eq (st' := []) rfl ?_
  have x6 := (o6 57 (by omega)).trans x5
  have O6 := O5.tr o6
  have q6 : F6 8 = [65, 91, 97, 123, 170, 171, 181, 182, 186, 187, 192, 215] := by rw [p6, q5]; exact pw_app ⟨(by unfold eAsc; decide), (by decide)⟩ (by decide) (by decide) (by decide) (by decide)
  have r6 : T6 8 = [] := u6.trans r5
  have K6 : ∀ j, j < 8 ∨ j = 11 → F6 j = EE j ∧ T6 j = SS j := fun j hj => ⟨(k6 j (by omega) (by omega) (by omega)).1.trans (K5 j hj).1, (k6 j (by omega) (by omega) (by omega)).2.trans (K5 j hj).2⟩
  refine w_aload_n d_MO_fillLetters_68 rfl rfl ?_
  refine w_bipush (v := nI 8) d_MO_fillLetters_69 (by decide) ?_
  refine w_sipush (v := nI 216) d_MO_fillLetters_71 (by decide) ?_
  refine w_sipush (v := nI 246) d_MO_fillLetters_74 (by decide) ?_
  refine w_callV (as := [.int (nI 8), .int (nI 216), .int (nI 246)]) (st := []) d_MO_fillLetters_77 yM_MO_addRange l_MO_123 vM_MO_addRange x6 rfl rfl rfl rfl (m_MO_addRange (t := 8) (a := 216) (c := 246) x6 E6 (by decide) (by decide) (by decide) (by decide) (by decide) (by rw [q6]; exact ⟨(by unfold eAsc; decide), (by decide)⟩) (by rw [q6]; decide) (by rw [r6]; intro y hy; cases hy)) (by decide) (by decide) (by decide) (by decide) (Nat.le_of_ble_eq_true rfl) ?_
  rintro _ g7 ⟨rfl, o7, F7, T7, E7, p7, u7, k7⟩
  refine w_eq (st' := []) rfl ?_
  have x7 := (o7 57 (by omega)).trans x6
  have O7 := O6.tr o7
  have q7 : F7 8 = [65, 91, 97, 123, 170, 171, 181, 182, 186, 187, 192, 215, 216, 247] := by rw [p7, q6]; exact pw_app ⟨(by unfold eAsc; decide), (by decide)⟩ (by decide) (by decide) (by decide) (by decide)
  have r7 : T7 8 = [] := u7.trans r6
  have K7 : ∀ j, j < 8 ∨ j = 11 → F7 j = EE j ∧ T7 j = SS j := fun j hj => ⟨(k7 j (by omega) (by omega) (by omega)).1.trans (K6 j hj).1, (k7 j (by omega) (by omega) (by omega)).2.trans (K6 j hj).2⟩
  refine w_aload_n d_MO_fillLetters_80 rfl rfl ?_
  refine w_bipush (v := nI 8) d_MO_fillLetters_81 (by decide) ?_
  refine w_sipush (v := nI 248) d_MO_fillLetters_83 (by decide) ?_
  refine w_sipush (v := nI 255) d_MO_fillLetters_86 (by decide) ?_
  refine w_callV (as := [.int (nI 8), .int (nI 248), .int (nI 255)]) (st := []) d_MO_fillLetters_89 yM_MO_addRange l_MO_123 vM_MO_addRange x7 rfl rfl rfl rfl (m_MO_addRange (t := 8) (a := 248) (c := 255) x7 E7 (by decide) (by decide) (by decide) (by decide) (by decide) (by rw [q7]; exact ⟨(by unfold eAsc; decide), (by decide)⟩) (by rw [q7]; decide) (by rw [r7]; intro y hy; cases hy)) (by decide) (by decide) (by decide) (by decide) (Nat.le_of_ble_eq_true rfl) ?_
  rintro _ g8 ⟨rfl, o8, F8, T8, E8, p8, u8, k8⟩
  refine w_eq (st' := []) rfl ?_
  have x8 := (o8 57 (by omega)).trans x7
  have O8 := O7.tr o8
  have q8 : F8 8 = [65, 91, 97, 123, 170, 171, 181, 182, 186, 187, 192, 215, 216, 247, 248, 256] := by rw [p8, q7]; exact pw_app ⟨(by unfold eAsc; decide), (by decide)⟩ (by decide) (by decide) (by decide) (by decide)
  have r8 : T8 8 = [] := u8.trans r7
  have K8 : ∀ j, j < 8 ∨ j = 11 → F8 j = EE j ∧ T8 j = SS j := fun j hj => ⟨(k8 j (by omega) (by omega) (by omega)).1.trans (K7 j hj).1, (k8 j (by omega) (by omega) (by omega)).2.trans (K7 j hj).2⟩
  refine w_aload_n d_MO_fillLetters_92 rfl rfl ?_
  refine w_bipush (v := nI 8) d_MO_fillLetters_93 (by decide) ?_
  refine w_sipush (v := nI 880) d_MO_fillLetters_95 (by decide) ?_
  refine w_sipush (v := nI 1023) d_MO_fillLetters_98 (by decide) ?_
  refine w_callV (as := [.int (nI 8), .int (nI 880), .int (nI 1023)]) (st := []) d_MO_fillLetters_101 yM_MO_addRange l_MO_123 vM_MO_addRange x8 rfl rfl rfl rfl (m_MO_addRange (t := 8) (a := 880) (c := 1023) x8 E8 (by decide) (by decide) (by decide) (by decide) (by decide) (by rw [q8]; exact ⟨(by unfold eAsc; decide), (by decide)⟩) (by rw [q8]; decide) (by rw [r8]; intro y hy; cases hy)) (by decide) (by decide) (by decide) (by decide) (Nat.le_of_ble_eq_true rfl) ?_
  rintro _ g9 ⟨rfl, o9, F9, T9, E9, p9, u9, k9⟩
  refine w_eq (st' := []) rfl ?_
  have x9 := (o9 57 (by omega)).trans x8
  have O9 := O8.tr o9
  have q9 : F9 8 = [65, 91, 97, 123, 170, 171, 181, 182, 186, 187, 192, 215, 216, 247, 248, 256, 880, 1024] := by rw [p9, q8]; exact pw_app ⟨(by unfold eAsc; decide), (by decide)⟩ (by decide) (by decide) (by decide) (by decide)
  have r9 : T9 8 = [] := u9.trans r8
  have K9 : ∀ j, j < 8 ∨ j = 11 → F9 j = EE j ∧ T9 j = SS j := fun j hj => ⟨(k9 j (by omega) (by omega) (by omega)).1.trans (K8 j hj).1, (k9 j (by omega) (by omega) (by omega)).2.trans (K8 j hj).2⟩
  rw [← hEN]
  refine w_vret d_MO_fillLetters_104 rfl ?_
  exact ⟨rfl, O9, F9, T9, E9, q9, r9, K9⟩
set_option maxHeartbeats 4000000 in
set_option maxRecDepth 100000 in
theorem m_MO_fill_0 {h : wH} {sz ap dp wr fi : Int32} (hx : h[57]? = some (.inr (7, [.ref 58, .int (sz), .ref 59, .ref 60, .ref 61, .ref 62, .int (ap), .int (nI 1), .int (dp), .ref 63, .ref 64, .ref 65, .ref 66, .int (wr), .int (fi), .ref 67]))) {EE SS : Nat → List Nat} (hE : mE h EE SS) (he : EE 8 = []) (hse : SS 8 = []) : PM X M_MO_fillNamed 5 0 0 [.ref 57, .long (lN 1603449)] h (fun z h' => z = none ∧ (∀ j, j ≠ 57 → (j < 59 ∨ 63 ≤ j) → h'[j]? = h[j]?) ∧ h'[57]? = some (.inr (7, [.ref 58, .int (sz), .ref 59, .ref 60, .ref 61, .ref 62, .int (ap), .int (bI (decide (¬ nmN (nmL.getD 0 []) = -1))), .int (dp), .ref 63, .ref 64, .ref 65, .ref 66, .int (wr), .int (fi), .ref 67])) ∧ ∃ EE' SS' : Nat → List Nat, mE h' EE' SS' ∧ (∀ j, j < 8 ∨ j = 11 → EE' j = EE j ∧ SS' j = SS j) ∧ (¬ nmN (nmL.getD 0 []) = -1 → EE' 8 = rTab (nmN (nmL.getD 0 [])) ∧ SS' 8 = [])) := by
  refine PM.at (pl := [some (.ref 57), some (.long (lN 1603449)), none]) rfl rfl (by simp [wle, wen]) ?_
  generalize hEN : wEm X 0 0 _ = EN
  refine w_lload_n d_MO_fillNamed_0 rfl ?_
  refine w_ldc2 (v := lN 1603449) d_MO_fillNamed_1 k_MO_120 ?_
  refine w_lcmp d_MO_fillNamed_4 ?_
  refine w_if_ne (tgt := 20) d_MO_fillNamed_5 rfl (fun z => absurd (by decide) z) (fun _ => ?_)
  refine w_aload_n d_MO_fillNamed_8 rfl rfl ?_
  refine w_bipush (v := nI 8) d_MO_fillNamed_9 (by decide) ?_
  refine w_iconst (v := nI 0) d_MO_fillNamed_11 (by decide) ?_
  refine w_ldc (v := nI 1114111) d_MO_fillNamed_12 k_MO_122 ?_
  refine w_callV (as := [.int (nI 8), .int (nI 0), .int (nI 1114111)]) (st := []) d_MO_fillNamed_14 yM_MO_addRange l_MO_123 vM_MO_addRange hx rfl rfl rfl rfl (m_MO_addRange (t := 8) (a := 0) (c := 1114111) hx hE (by decide) (by decide) (by decide) (by decide) (by decide) (by rw [he]; exact ⟨(by unfold eAsc; decide), (by decide)⟩) (by rw [he]; decide) (by rw [hse]; intro y hy; cases hy)) (by decide) (by decide) (by decide) (by decide) (Nat.le_of_ble_eq_true rfl) ?_
  rintro _ g1 ⟨rfl, o1, F1, T1, E1, p1, u1, k1⟩
  refine w_eq (st' := []) rfl ?_
  have x1 := (o1 57 (by omega)).trans hx
  have O1 := o1
  have q1 : F1 8 = [0, 1114112] := by rw [p1, he]; exact pw_app ⟨(by unfold eAsc; decide), (by decide)⟩ (by decide) (by decide) (by decide) (by decide)
  have r1 : T1 8 = [] := u1.trans hse
  have K1 : ∀ j, j < 8 ∨ j = 11 → F1 j = EE j ∧ T1 j = SS j := fun j hj => k1 j (by omega) (by omega) (by omega)
  refine w_goto (tgt := 311) d_MO_fillNamed_17 rfl ?_
  rw [← hEN]
  refine w_vret d_MO_fillNamed_311 rfl ?_
  exact ⟨rfl, fun j _ hj => O1 j (by omega), (by rw [show decide (¬ nmN (nmL.getD 0 []) = -1) = true by decide]; exact x1), F1, T1, E1, K1, fun _ => ⟨q1.trans (by decide), r1⟩⟩
set_option maxHeartbeats 4000000 in
set_option maxRecDepth 100000 in
theorem m_MO_fill_1 {h : wH} {sz ap dp wr fi : Int32} (hx : h[57]? = some (.inr (7, [.ref 58, .int (sz), .ref 59, .ref 60, .ref 61, .ref 62, .int (ap), .int (nI 1), .int (dp), .ref 63, .ref 64, .ref 65, .ref 66, .int (wr), .int (fi), .ref 67]))) {EE SS : Nat → List Nat} (hE : mE h EE SS) (he : EE 8 = []) (hse : SS 8 = []) : PM X M_MO_fillNamed 5 0 0 [.ref 57, .long (lN 26281047273)] h (fun z h' => z = none ∧ (∀ j, j ≠ 57 → (j < 59 ∨ 63 ≤ j) → h'[j]? = h[j]?) ∧ h'[57]? = some (.inr (7, [.ref 58, .int (sz), .ref 59, .ref 60, .ref 61, .ref 62, .int (ap), .int (bI (decide (¬ nmN (nmL.getD 1 []) = -1))), .int (dp), .ref 63, .ref 64, .ref 65, .ref 66, .int (wr), .int (fi), .ref 67])) ∧ ∃ EE' SS' : Nat → List Nat, mE h' EE' SS' ∧ (∀ j, j < 8 ∨ j = 11 → EE' j = EE j ∧ SS' j = SS j) ∧ (¬ nmN (nmL.getD 1 []) = -1 → EE' 8 = rTab (nmN (nmL.getD 1 [])) ∧ SS' 8 = [])) := by
  refine PM.at (pl := [some (.ref 57), some (.long (lN 26281047273)), none]) rfl rfl (by simp [wle, wen]) ?_
  generalize hEN : wEm X 0 0 _ = EN
  refine w_lload_n d_MO_fillNamed_0 rfl ?_
  refine w_ldc2 (v := lN 1603449) d_MO_fillNamed_1 k_MO_120 ?_
  refine w_lcmp d_MO_fillNamed_4 ?_
  refine w_if_ne (tgt := 20) d_MO_fillNamed_5 rfl (fun _ => ?_) (fun z => absurd z (by decide))
  refine w_lload_n d_MO_fillNamed_20 rfl ?_
  refine w_ldc2 (v := lN 26281047273) d_MO_fillNamed_21 k_MO_126 ?_
  refine w_lcmp d_MO_fillNamed_24 ?_
  refine w_if_ne (tgt := 40) d_MO_fillNamed_25 rfl (fun z => absurd (by decide) z) (fun _ => ?_)
  refine w_aload_n d_MO_fillNamed_28 rfl rfl ?_
  refine w_bipush (v := nI 8) d_MO_fillNamed_29 (by decide) ?_
  refine w_iconst (v := nI 0) d_MO_fillNamed_31 (by decide) ?_
  refine w_bipush (v := nI 127) d_MO_fillNamed_32 (by decide) ?_
  refine w_callV (as := [.int (nI 8), .int (nI 0), .int (nI 127)]) (st := []) d_MO_fillNamed_34 yM_MO_addRange l_MO_123 vM_MO_addRange hx rfl rfl rfl rfl (m_MO_addRange (t := 8) (a := 0) (c := 127) hx hE (by decide) (by decide) (by decide) (by decide) (by decide) (by rw [he]; exact ⟨(by unfold eAsc; decide), (by decide)⟩) (by rw [he]; decide) (by rw [hse]; intro y hy; cases hy)) (by decide) (by decide) (by decide) (by decide) (Nat.le_of_ble_eq_true rfl) ?_
  rintro _ g1 ⟨rfl, o1, F1, T1, E1, p1, u1, k1⟩
  refine w_eq (st' := []) rfl ?_
  have x1 := (o1 57 (by omega)).trans hx
  have O1 := o1
  have q1 : F1 8 = [0, 128] := by rw [p1, he]; exact pw_app ⟨(by unfold eAsc; decide), (by decide)⟩ (by decide) (by decide) (by decide) (by decide)
  have r1 : T1 8 = [] := u1.trans hse
  have K1 : ∀ j, j < 8 ∨ j = 11 → F1 j = EE j ∧ T1 j = SS j := fun j hj => k1 j (by omega) (by omega) (by omega)
  refine w_goto (tgt := 311) d_MO_fillNamed_37 rfl ?_
  rw [← hEN]
  refine w_vret d_MO_fillNamed_311 rfl ?_
  exact ⟨rfl, fun j _ hj => O1 j (by omega), (by rw [show decide (¬ nmN (nmL.getD 1 []) = -1) = true by decide]; exact x1), F1, T1, E1, K1, fun _ => ⟨q1.trans (by decide), r1⟩⟩
set_option maxHeartbeats 4000000 in
set_option maxRecDepth 100000 in
theorem m_MO_fill_2 {h : wH} {sz ap dp wr fi : Int32} (hx : h[57]? = some (.inr (7, [.ref 58, .int (sz), .ref 59, .ref 60, .ref 61, .ref 62, .int (ap), .int (nI 1), .int (dp), .ref 63, .ref 64, .ref 65, .ref 66, .int (wr), .int (fi), .ref 67]))) {EE SS : Nat → List Nat} (hE : mE h EE SS) (he : EE 8 = []) (hse : SS 8 = []) : PM X M_MO_fillNamed 5 0 0 [.ref 57, .long (lN 27065447668)] h (fun z h' => z = none ∧ (∀ j, j ≠ 57 → (j < 59 ∨ 63 ≤ j) → h'[j]? = h[j]?) ∧ h'[57]? = some (.inr (7, [.ref 58, .int (sz), .ref 59, .ref 60, .ref 61, .ref 62, .int (ap), .int (bI (decide (¬ nmN (nmL.getD 2 []) = -1))), .int (dp), .ref 63, .ref 64, .ref 65, .ref 66, .int (wr), .int (fi), .ref 67])) ∧ ∃ EE' SS' : Nat → List Nat, mE h' EE' SS' ∧ (∀ j, j < 8 ∨ j = 11 → EE' j = EE j ∧ SS' j = SS j) ∧ (¬ nmN (nmL.getD 2 []) = -1 → EE' 8 = rTab (nmN (nmL.getD 2 [])) ∧ SS' 8 = [])) := by
  refine PM.at (pl := [some (.ref 57), some (.long (lN 27065447668)), none]) rfl rfl (by simp [wle, wen]) ?_
  generalize hEN : wEm X 0 0 _ = EN
  refine w_lload_n d_MO_fillNamed_0 rfl ?_
  refine w_ldc2 (v := lN 1603449) d_MO_fillNamed_1 k_MO_120 ?_
  refine w_lcmp d_MO_fillNamed_4 ?_
  refine w_if_ne (tgt := 20) d_MO_fillNamed_5 rfl (fun _ => ?_) (fun z => absurd z (by decide))
  refine w_lload_n d_MO_fillNamed_20 rfl ?_
  refine w_ldc2 (v := lN 26281047273) d_MO_fillNamed_21 k_MO_126 ?_
  refine w_lcmp d_MO_fillNamed_24 ?_
  refine w_if_ne (tgt := 40) d_MO_fillNamed_25 rfl (fun _ => ?_) (fun z => absurd z (by decide))
  refine w_lload_n d_MO_fillNamed_40 rfl ?_
  refine w_ldc2 (v := lN 27065447668) d_MO_fillNamed_41 k_MO_128 ?_
  refine w_lcmp d_MO_fillNamed_44 ?_
  refine w_if_ne (tgt := 61) d_MO_fillNamed_45 rfl (fun z => absurd (by decide) z) (fun _ => ?_)
  refine w_aload_n d_MO_fillNamed_48 rfl rfl ?_
  refine w_bipush (v := nI 8) d_MO_fillNamed_49 (by decide) ?_
  refine w_bipush (v := nI 48) d_MO_fillNamed_51 (by decide) ?_
  refine w_bipush (v := nI 57) d_MO_fillNamed_53 (by decide) ?_
  refine w_callV (as := [.int (nI 8), .int (nI 48), .int (nI 57)]) (st := []) d_MO_fillNamed_55 yM_MO_addRange l_MO_123 vM_MO_addRange hx rfl rfl rfl rfl (m_MO_addRange (t := 8) (a := 48) (c := 57) hx hE (by decide) (by decide) (by decide) (by decide) (by decide) (by rw [he]; exact ⟨(by unfold eAsc; decide), (by decide)⟩) (by rw [he]; decide) (by rw [hse]; intro y hy; cases hy)) (by decide) (by decide) (by decide) (by decide) (Nat.le_of_ble_eq_true rfl) ?_
  rintro _ g1 ⟨rfl, o1, F1, T1, E1, p1, u1, k1⟩
  refine w_eq (st' := []) rfl ?_
  have x1 := (o1 57 (by omega)).trans hx
  have O1 := o1
  have q1 : F1 8 = [48, 58] := by rw [p1, he]; exact pw_app ⟨(by unfold eAsc; decide), (by decide)⟩ (by decide) (by decide) (by decide) (by decide)
  have r1 : T1 8 = [] := u1.trans hse
  have K1 : ∀ j, j < 8 ∨ j = 11 → F1 j = EE j ∧ T1 j = SS j := fun j hj => k1 j (by omega) (by omega) (by omega)
  refine w_goto (tgt := 311) d_MO_fillNamed_58 rfl ?_
  rw [← hEN]
  refine w_vret d_MO_fillNamed_311 rfl ?_
  exact ⟨rfl, fun j _ hj => O1 j (by omega), (by rw [show decide (¬ nmN (nmL.getD 2 []) = -1) = true by decide]; exact x1), F1, T1, E1, K1, fun _ => ⟨q1.trans (by decide), r1⟩⟩
set_option maxHeartbeats 4000000 in
set_option maxRecDepth 100000 in
theorem m_MO_fill_3 {h : wH} {sz ap dp wr fi : Int32} (hx : h[57]? = some (.inr (7, [.ref 58, .int (sz), .ref 59, .ref 60, .ref 61, .ref 62, .int (ap), .int (nI 1), .int (dp), .ref 63, .ref 64, .ref 65, .ref 66, .int (wr), .int (fi), .ref 67]))) {EE SS : Nat → List Nat} (hE : mE h EE SS) (he : EE 8 = []) (hse : SS 8 = []) : PM X M_MO_fillNamed 5 0 0 [.ref 57, .long (lN 58995148087489780)] h (fun z h' => z = none ∧ (∀ j, j ≠ 57 → (j < 59 ∨ 63 ≤ j) → h'[j]? = h[j]?) ∧ h'[57]? = some (.inr (7, [.ref 58, .int (sz), .ref 59, .ref 60, .ref 61, .ref 62, .int (ap), .int (bI (decide (¬ nmN (nmL.getD 3 []) = -1))), .int (dp), .ref 63, .ref 64, .ref 65, .ref 66, .int (wr), .int (fi), .ref 67])) ∧ ∃ EE' SS' : Nat → List Nat, mE h' EE' SS' ∧ (∀ j, j < 8 ∨ j = 11 → EE' j = EE j ∧ SS' j = SS j) ∧ (¬ nmN (nmL.getD 3 []) = -1 → EE' 8 = rTab (nmN (nmL.getD 3 [])) ∧ SS' 8 = [])) := by
  refine PM.at (pl := [some (.ref 57), some (.long (lN 58995148087489780)), none]) rfl rfl (by simp [wle, wen]) ?_
  generalize hEN : wEm X 0 0 _ = EN
  refine w_lload_n d_MO_fillNamed_0 rfl ?_
  refine w_ldc2 (v := lN 1603449) d_MO_fillNamed_1 k_MO_120 ?_
  refine w_lcmp d_MO_fillNamed_4 ?_
  refine w_if_ne (tgt := 20) d_MO_fillNamed_5 rfl (fun _ => ?_) (fun z => absurd z (by decide))
  refine w_lload_n d_MO_fillNamed_20 rfl ?_
  refine w_ldc2 (v := lN 26281047273) d_MO_fillNamed_21 k_MO_126 ?_
  refine w_lcmp d_MO_fillNamed_24 ?_
  refine w_if_ne (tgt := 40) d_MO_fillNamed_25 rfl (fun _ => ?_) (fun z => absurd z (by decide))
  refine w_lload_n d_MO_fillNamed_40 rfl ?_
  refine w_ldc2 (v := lN 27065447668) d_MO_fillNamed_41 k_MO_128 ?_
  refine w_lcmp d_MO_fillNamed_44 ?_
  refine w_if_ne (tgt := 61) d_MO_fillNamed_45 rfl (fun _ => ?_) (fun z => absurd z (by decide))
  refine w_lload_n d_MO_fillNamed_61 rfl ?_
  refine w_ldc2 (v := lN 58995148087489780) d_MO_fillNamed_62 k_MO_130 ?_
  refine w_lcmp d_MO_fillNamed_65 ?_
  refine w_if_ne (tgt := 102) d_MO_fillNamed_66 rfl (fun z => absurd (by decide) z) (fun _ => ?_)
  refine w_aload_n d_MO_fillNamed_69 rfl rfl ?_
  refine w_bipush (v := nI 8) d_MO_fillNamed_70 (by decide) ?_
  refine w_bipush (v := nI 48) d_MO_fillNamed_72 (by decide) ?_
  refine w_bipush (v := nI 57) d_MO_fillNamed_74 (by decide) ?_
  refine w_callV (as := [.int (nI 8), .int (nI 48), .int (nI 57)]) (st := []) d_MO_fillNamed_76 yM_MO_addRange l_MO_123 vM_MO_addRange hx rfl rfl rfl rfl (m_MO_addRange (t := 8) (a := 48) (c := 57) hx hE (by decide) (by decide) (by decide) (by decide) (by decide) (by rw [he]; exact ⟨(by unfold eAsc; decide), (by decide)⟩) (by rw [he]; decide) (by rw [hse]; intro y hy; cases hy)) (by decide) (by decide) (by decide) (by decide) (Nat.le_of_ble_eq_true rfl) ?_
  rintro _ g1 ⟨rfl, o1, F1, T1, E1, p1, u1, k1⟩
  refine w_eq (st' := []) rfl ?_
  have x1 := (o1 57 (by omega)).trans hx
  have O1 := o1
  have q1 : F1 8 = [48, 58] := by rw [p1, he]; exact pw_app ⟨(by unfold eAsc; decide), (by decide)⟩ (by decide) (by decide) (by decide) (by decide)
  have r1 : T1 8 = [] := u1.trans hse
  have K1 : ∀ j, j < 8 ∨ j = 11 → F1 j = EE j ∧ T1 j = SS j := fun j hj => k1 j (by omega) (by omega) (by omega)
  refine w_aload_n d_MO_fillNamed_79 rfl rfl ?_
  refine w_bipush (v := nI 8) d_MO_fillNamed_80 (by decide) ?_
  refine w_bipush (v := nI 65) d_MO_fillNamed_82 (by decide) ?_
  refine w_bipush (v := nI 70) d_MO_fillNamed_84 (by decide) ?_
  refine w_callV (as := [.int (nI 8), .int (nI 65), .int (nI 70)]) (st := []) d_MO_fillNamed_86 yM_MO_addRange l_MO_123 vM_MO_addRange x1 rfl rfl rfl rfl (m_MO_addRange (t := 8) (a := 65) (c := 70) x1 E1 (by decide) (by decide) (by decide) (by decide) (by decide) (by rw [q1]; exact ⟨(by unfold eAsc; decide), (by decide)⟩) (by rw [q1]; decide) (by rw [r1]; intro y hy; cases hy)) (by decide) (by decide) (by decide) (by decide) (Nat.le_of_ble_eq_true rfl) ?_
  rintro _ g2 ⟨rfl, o2, F2, T2, E2, p2, u2, k2⟩
  refine w_eq (st' := []) rfl ?_
  have x2 := (o2 57 (by omega)).trans x1
  have O2 := O1.tr o2
  have q2 : F2 8 = [48, 58, 65, 71] := by rw [p2, q1]; exact pw_app ⟨(by unfold eAsc; decide), (by decide)⟩ (by decide) (by decide) (by decide) (by decide)
  have r2 : T2 8 = [] := u2.trans r1
  have K2 : ∀ j, j < 8 ∨ j = 11 → F2 j = EE j ∧ T2 j = SS j := fun j hj => ⟨(k2 j (by omega) (by omega) (by omega)).1.trans (K1 j hj).1, (k2 j (by omega) (by omega) (by omega)).2.trans (K1 j hj).2⟩
  refine w_aload_n d_MO_fillNamed_89 rfl rfl ?_
  refine w_bipush (v := nI 8) d_MO_fillNamed_90 (by decide) ?_
  refine w_bipush (v := nI 97) d_MO_fillNamed_92 (by decide) ?_
  refine w_bipush (v := nI 102) d_MO_fillNamed_94 (by decide) ?_
  refine w_callV (as := [.int (nI 8), .int (nI 97), .int (nI 102)]) (st := []) d_MO_fillNamed_96 yM_MO_addRange l_MO_123 vM_MO_addRange x2 rfl rfl rfl rfl (m_MO_addRange (t := 8) (a := 97) (c := 102) x2 E2 (by decide) (by decide) (by decide) (by decide) (by decide) (by rw [q2]; exact ⟨(by unfold eAsc; decide), (by decide)⟩) (by rw [q2]; decide) (by rw [r2]; intro y hy; cases hy)) (by decide) (by decide) (by decide) (by decide) (Nat.le_of_ble_eq_true rfl) ?_
  rintro _ g3 ⟨rfl, o3, F3, T3, E3, p3, u3, k3⟩
  refine w_eq (st' := []) rfl ?_
  have x3 := (o3 57 (by omega)).trans x2
  have O3 := O2.tr o3
  have q3 : F3 8 = [48, 58, 65, 71, 97, 103] := by rw [p3, q2]; exact pw_app ⟨(by unfold eAsc; decide), (by decide)⟩ (by decide) (by decide) (by decide) (by decide)
  have r3 : T3 8 = [] := u3.trans r2
  have K3 : ∀ j, j < 8 ∨ j = 11 → F3 j = EE j ∧ T3 j = SS j := fun j hj => ⟨(k3 j (by omega) (by omega) (by omega)).1.trans (K2 j hj).1, (k3 j (by omega) (by omega) (by omega)).2.trans (K2 j hj).2⟩
  refine w_goto (tgt := 311) d_MO_fillNamed_99 rfl ?_
  rw [← hEN]
  refine w_vret d_MO_fillNamed_311 rfl ?_
  exact ⟨rfl, fun j _ hj => O3 j (by omega), (by rw [show decide (¬ nmN (nmL.getD 3 []) = -1) = true by decide]; exact x3), F3, T3, E3, K3, fun _ => ⟨q3.trans (by decide), r3⟩⟩
set_option maxHeartbeats 4000000 in
set_option maxRecDepth 100000 in
theorem m_MO_fill_4 {h : wH} {sz ap dp wr fi : Int32} (hx : h[57]? = some (.inr (7, [.ref 58, .int (sz), .ref 59, .ref 60, .ref 61, .ref 62, .int (ap), .int (nI 1), .int (dp), .ref 63, .ref 64, .ref 65, .ref 66, .int (wr), .int (fi), .ref 67]))) {EE SS : Nat → List Nat} (hE : mE h EE SS) (he : EE 8 = []) (hse : SS 8 = []) : PM X M_MO_fillNamed 5 0 0 [.ref 57, .long (lN 31643677426)] h (fun z h' => z = none ∧ (∀ j, j ≠ 57 → (j < 59 ∨ 63 ≤ j) → h'[j]? = h[j]?) ∧ h'[57]? = some (.inr (7, [.ref 58, .int (sz), .ref 59, .ref 60, .ref 61, .ref 62, .int (ap), .int (bI (decide (¬ nmN (nmL.getD 4 []) = -1))), .int (dp), .ref 63, .ref 64, .ref 65, .ref 66, .int (wr), .int (fi), .ref 67])) ∧ ∃ EE' SS' : Nat → List Nat, mE h' EE' SS' ∧ (∀ j, j < 8 ∨ j = 11 → EE' j = EE j ∧ SS' j = SS j) ∧ (¬ nmN (nmL.getD 4 []) = -1 → EE' 8 = rTab (nmN (nmL.getD 4 [])) ∧ SS' 8 = [])) := by
  refine PM.at (pl := [some (.ref 57), some (.long (lN 31643677426)), none]) rfl rfl (by simp [wle, wen]) ?_
  generalize hEN : wEm X 0 0 _ = EN
  refine w_lload_n d_MO_fillNamed_0 rfl ?_
  refine w_ldc2 (v := lN 1603449) d_MO_fillNamed_1 k_MO_120 ?_
  refine w_lcmp d_MO_fillNamed_4 ?_
  refine w_if_ne (tgt := 20) d_MO_fillNamed_5 rfl (fun _ => ?_) (fun z => absurd z (by decide))
  refine w_lload_n d_MO_fillNamed_20 rfl ?_
  refine w_ldc2 (v := lN 26281047273) d_MO_fillNamed_21 k_MO_126 ?_
  refine w_lcmp d_MO_fillNamed_24 ?_
  refine w_if_ne (tgt := 40) d_MO_fillNamed_25 rfl (fun _ => ?_) (fun z => absurd z (by decide))
  refine w_lload_n d_MO_fillNamed_40 rfl ?_
  refine w_ldc2 (v := lN 27065447668) d_MO_fillNamed_41 k_MO_128 ?_
  refine w_lcmp d_MO_fillNamed_44 ?_
  refine w_if_ne (tgt := 61) d_MO_fillNamed_45 rfl (fun _ => ?_) (fun z => absurd z (by decide))
  refine w_lload_n d_MO_fillNamed_61 rfl ?_
  refine w_ldc2 (v := lN 58995148087489780) d_MO_fillNamed_62 k_MO_130 ?_
  refine w_lcmp d_MO_fillNamed_65 ?_
  refine w_if_ne (tgt := 102) d_MO_fillNamed_66 rfl (fun _ => ?_) (fun z => absurd z (by decide))
  refine w_lload_n d_MO_fillNamed_102 rfl ?_
  refine w_ldc2 (v := lN 31643677426) d_MO_fillNamed_103 k_MO_132 ?_
  refine w_lcmp d_MO_fillNamed_106 ?_
  refine w_if_ne (tgt := 147) d_MO_fillNamed_107 rfl (fun z => absurd (by decide) z) (fun _ => ?_)
  refine w_aload_n d_MO_fillNamed_110 rfl rfl ?_
  refine w_bipush (v := nI 8) d_MO_fillNamed_111 (by decide) ?_
  refine w_bipush (v := nI 65) d_MO_fillNamed_113 (by decide) ?_
  refine w_bipush (v := nI 90) d_MO_fillNamed_115 (by decide) ?_
  refine w_callV (as := [.int (nI 8), .int (nI 65), .int (nI 90)]) (st := []) d_MO_fillNamed_117 yM_MO_addRange l_MO_123 vM_MO_addRange hx rfl rfl rfl rfl (m_MO_addRange (t := 8) (a := 65) (c := 90) hx hE (by decide) (by decide) (by decide) (by decide) (by decide) (by rw [he]; exact ⟨(by unfold eAsc; decide), (by decide)⟩) (by rw [he]; decide) (by rw [hse]; intro y hy; cases hy)) (by decide) (by decide) (by decide) (by decide) (Nat.le_of_ble_eq_true rfl) ?_
  rintro _ g1 ⟨rfl, o1, F1, T1, E1, p1, u1, k1⟩
  refine w_eq (st' := []) rfl ?_
  have x1 := (o1 57 (by omega)).trans hx
  have O1 := o1
  have q1 : F1 8 = [65, 91] := by rw [p1, he]; exact pw_app ⟨(by unfold eAsc; decide), (by decide)⟩ (by decide) (by decide) (by decide) (by decide)
  have r1 : T1 8 = [] := u1.trans hse
  have K1 : ∀ j, j < 8 ∨ j = 11 → F1 j = EE j ∧ T1 j = SS j := fun j hj => k1 j (by omega) (by omega) (by omega)
  refine w_aload_n d_MO_fillNamed_120 rfl rfl ?_
  refine w_bipush (v := nI 8) d_MO_fillNamed_121 (by decide) ?_
  refine w_sipush (v := nI 192) d_MO_fillNamed_123 (by decide) ?_
  refine w_sipush (v := nI 214) d_MO_fillNamed_126 (by decide) ?_
  refine w_callV (as := [.int (nI 8), .int (nI 192), .int (nI 214)]) (st := []) d_MO_fillNamed_129 yM_MO_addRange l_MO_123 vM_MO_addRange x1 rfl rfl rfl rfl (m_MO_addRange (t := 8) (a := 192) (c := 214) x1 E1 (by decide) (by decide) (by decide) (by decide) (by decide) (by rw [q1]; exact ⟨(by unfold eAsc; decide), (by decide)⟩) (by rw [q1]; decide) (by rw [r1]; intro y hy; cases hy)) (by decide) (by decide) (by decide) (by decide) (Nat.le_of_ble_eq_true rfl) ?_
  rintro _ g2 ⟨rfl, o2, F2, T2, E2, p2, u2, k2⟩
  refine w_eq (st' := []) rfl ?_
  have x2 := (o2 57 (by omega)).trans x1
  have O2 := O1.tr o2
  have q2 : F2 8 = [65, 91, 192, 215] := by rw [p2, q1]; exact pw_app ⟨(by unfold eAsc; decide), (by decide)⟩ (by decide) (by decide) (by decide) (by decide)
  have r2 : T2 8 = [] := u2.trans r1
  have K2 : ∀ j, j < 8 ∨ j = 11 → F2 j = EE j ∧ T2 j = SS j := fun j hj => ⟨(k2 j (by omega) (by omega) (by omega)).1.trans (K1 j hj).1, (k2 j (by omega) (by omega) (by omega)).2.trans (K1 j hj).2⟩
  refine w_aload_n d_MO_fillNamed_132 rfl rfl ?_
  refine w_bipush (v := nI 8) d_MO_fillNamed_133 (by decide) ?_
  refine w_sipush (v := nI 216) d_MO_fillNamed_135 (by decide) ?_
  refine w_sipush (v := nI 222) d_MO_fillNamed_138 (by decide) ?_
  refine w_callV (as := [.int (nI 8), .int (nI 216), .int (nI 222)]) (st := []) d_MO_fillNamed_141 yM_MO_addRange l_MO_123 vM_MO_addRange x2 rfl rfl rfl rfl (m_MO_addRange (t := 8) (a := 216) (c := 222) x2 E2 (by decide) (by decide) (by decide) (by decide) (by decide) (by rw [q2]; exact ⟨(by unfold eAsc; decide), (by decide)⟩) (by rw [q2]; decide) (by rw [r2]; intro y hy; cases hy)) (by decide) (by decide) (by decide) (by decide) (Nat.le_of_ble_eq_true rfl) ?_
  rintro _ g3 ⟨rfl, o3, F3, T3, E3, p3, u3, k3⟩
  refine w_eq (st' := []) rfl ?_
  have x3 := (o3 57 (by omega)).trans x2
  have O3 := O2.tr o3
  have q3 : F3 8 = [65, 91, 192, 215, 216, 223] := by rw [p3, q2]; exact pw_app ⟨(by unfold eAsc; decide), (by decide)⟩ (by decide) (by decide) (by decide) (by decide)
  have r3 : T3 8 = [] := u3.trans r2
  have K3 : ∀ j, j < 8 ∨ j = 11 → F3 j = EE j ∧ T3 j = SS j := fun j hj => ⟨(k3 j (by omega) (by omega) (by omega)).1.trans (K2 j hj).1, (k3 j (by omega) (by omega) (by omega)).2.trans (K2 j hj).2⟩
  refine w_goto (tgt := 311) d_MO_fillNamed_144 rfl ?_
  rw [← hEN]
  refine w_vret d_MO_fillNamed_311 rfl ?_
  exact ⟨rfl, fun j _ hj => O3 j (by omega), (by rw [show decide (¬ nmN (nmL.getD 4 []) = -1) = true by decide]; exact x3), F3, T3, E3, K3, fun _ => ⟨q3.trans (by decide), r3⟩⟩
set_option maxHeartbeats 4000000 in
set_option maxRecDepth 100000 in
theorem m_MO_fill_5 {h : wH} {sz ap dp wr fi : Int32} (hx : h[57]? = some (.inr (7, [.ref 58, .int (sz), .ref 59, .ref 60, .ref 61, .ref 62, .int (ap), .int (nI 1), .int (dp), .ref 63, .ref 64, .ref 65, .ref 66, .int (wr), .int (fi), .ref 67]))) {EE SS : Nat → List Nat} (hE : mE h EE SS) (he : EE 8 = []) (hse : SS 8 = []) : PM X M_MO_fillNamed 5 0 0 [.ref 57, .long (lN 29225775858)] h (fun z h' => z = none ∧ (∀ j, j ≠ 57 → (j < 59 ∨ 63 ≤ j) → h'[j]? = h[j]?) ∧ h'[57]? = some (.inr (7, [.ref 58, .int (sz), .ref 59, .ref 60, .ref 61, .ref 62, .int (ap), .int (bI (decide (¬ nmN (nmL.getD 5 []) = -1))), .int (dp), .ref 63, .ref 64, .ref 65, .ref 66, .int (wr), .int (fi), .ref 67])) ∧ ∃ EE' SS' : Nat → List Nat, mE h' EE' SS' ∧ (∀ j, j < 8 ∨ j = 11 → EE' j = EE j ∧ SS' j = SS j) ∧ (¬ nmN (nmL.getD 5 []) = -1 → EE' 8 = rTab (nmN (nmL.getD 5 [])) ∧ SS' 8 = [])) := by
  refine PM.at (pl := [some (.ref 57), some (.long (lN 29225775858)), none]) rfl rfl (by simp [wle, wen]) ?_
  generalize hEN : wEm X 0 0 _ = EN
  refine w_lload_n d_MO_fillNamed_0 rfl ?_
  refine w_ldc2 (v := lN 1603449) d_MO_fillNamed_1 k_MO_120 ?_
  refine w_lcmp d_MO_fillNamed_4 ?_
  refine w_if_ne (tgt := 20) d_MO_fillNamed_5 rfl (fun _ => ?_) (fun z => absurd z (by decide))
  refine w_lload_n d_MO_fillNamed_20 rfl ?_
  refine w_ldc2 (v := lN 26281047273) d_MO_fillNamed_21 k_MO_126 ?_
  refine w_lcmp d_MO_fillNamed_24 ?_
  refine w_if_ne (tgt := 40) d_MO_fillNamed_25 rfl (fun _ => ?_) (fun z => absurd z (by decide))
  refine w_lload_n d_MO_fillNamed_40 rfl ?_
  refine w_ldc2 (v := lN 27065447668) d_MO_fillNamed_41 k_MO_128 ?_
  refine w_lcmp d_MO_fillNamed_44 ?_
  refine w_if_ne (tgt := 61) d_MO_fillNamed_45 rfl (fun _ => ?_) (fun z => absurd z (by decide))
  refine w_lload_n d_MO_fillNamed_61 rfl ?_
  refine w_ldc2 (v := lN 58995148087489780) d_MO_fillNamed_62 k_MO_130 ?_
  refine w_lcmp d_MO_fillNamed_65 ?_
  refine w_if_ne (tgt := 102) d_MO_fillNamed_66 rfl (fun _ => ?_) (fun z => absurd z (by decide))
  refine w_lload_n d_MO_fillNamed_102 rfl ?_
  refine w_ldc2 (v := lN 31643677426) d_MO_fillNamed_103 k_MO_132 ?_
  refine w_lcmp d_MO_fillNamed_106 ?_
  refine w_if_ne (tgt := 147) d_MO_fillNamed_107 rfl (fun _ => ?_) (fun z => absurd z (by decide))
  refine w_lload_n d_MO_fillNamed_147 rfl ?_
  refine w_ldc2 (v := lN 29225775858) d_MO_fillNamed_148 k_MO_134 ?_
  refine w_lcmp d_MO_fillNamed_151 ?_
  refine w_if_ne (tgt := 192) d_MO_fillNamed_152 rfl (fun z => absurd (by decide) z) (fun _ => ?_)
  refine w_aload_n d_MO_fillNamed_155 rfl rfl ?_
  refine w_bipush (v := nI 8) d_MO_fillNamed_156 (by decide) ?_
  refine w_bipush (v := nI 97) d_MO_fillNamed_158 (by decide) ?_
  refine w_bipush (v := nI 122) d_MO_fillNamed_160 (by decide) ?_
  refine w_callV (as := [.int (nI 8), .int (nI 97), .int (nI 122)]) (st := []) d_MO_fillNamed_162 yM_MO_addRange l_MO_123 vM_MO_addRange hx rfl rfl rfl rfl (m_MO_addRange (t := 8) (a := 97) (c := 122) hx hE (by decide) (by decide) (by decide) (by decide) (by decide) (by rw [he]; exact ⟨(by unfold eAsc; decide), (by decide)⟩) (by rw [he]; decide) (by rw [hse]; intro y hy; cases hy)) (by decide) (by decide) (by decide) (by decide) (Nat.le_of_ble_eq_true rfl) ?_
  rintro _ g1 ⟨rfl, o1, F1, T1, E1, p1, u1, k1⟩
  refine w_eq (st' := []) rfl ?_
  have x1 := (o1 57 (by omega)).trans hx
  have O1 := o1
  have q1 : F1 8 = [97, 123] := by rw [p1, he]; exact pw_app ⟨(by unfold eAsc; decide), (by decide)⟩ (by decide) (by decide) (by decide) (by decide)
  have r1 : T1 8 = [] := u1.trans hse
  have K1 : ∀ j, j < 8 ∨ j = 11 → F1 j = EE j ∧ T1 j = SS j := fun j hj => k1 j (by omega) (by omega) (by omega)
  refine w_aload_n d_MO_fillNamed_165 rfl rfl ?_
  refine w_bipush (v := nI 8) d_MO_fillNamed_166 (by decide) ?_
  refine w_sipush (v := nI 223) d_MO_fillNamed_168 (by decide) ?_
  refine w_sipush (v := nI 246) d_MO_fillNamed_171 (by decide) ?_
  refine w_callV (as := [.int (nI 8), .int (nI 223), .int (nI 246)]) (st := []) d_MO_fillNamed_174 yM_MO_addRange l_MO_123 vM_MO_addRange x1 rfl rfl rfl rfl (m_MO_addRange (t := 8) (a := 223) (c := 246) x1 E1 (by decide) (by decide) (by decide) (by decide) (by decide) (by rw [q1]; exact ⟨(by unfold eAsc; decide), (by decide)⟩) (by rw [q1]; decide) (by rw [r1]; intro y hy; cases hy)) (by decide) (by decide) (by decide) (by decide) (Nat.le_of_ble_eq_true rfl) ?_
  rintro _ g2 ⟨rfl, o2, F2, T2, E2, p2, u2, k2⟩
  refine w_eq (st' := []) rfl ?_
  have x2 := (o2 57 (by omega)).trans x1
  have O2 := O1.tr o2
  have q2 : F2 8 = [97, 123, 223, 247] := by rw [p2, q1]; exact pw_app ⟨(by unfold eAsc; decide), (by decide)⟩ (by decide) (by decide) (by decide) (by decide)
  have r2 : T2 8 = [] := u2.trans r1
  have K2 : ∀ j, j < 8 ∨ j = 11 → F2 j = EE j ∧ T2 j = SS j := fun j hj => ⟨(k2 j (by omega) (by omega) (by omega)).1.trans (K1 j hj).1, (k2 j (by omega) (by omega) (by omega)).2.trans (K1 j hj).2⟩
  refine w_aload_n d_MO_fillNamed_177 rfl rfl ?_
  refine w_bipush (v := nI 8) d_MO_fillNamed_178 (by decide) ?_
  refine w_sipush (v := nI 248) d_MO_fillNamed_180 (by decide) ?_
  refine w_sipush (v := nI 255) d_MO_fillNamed_183 (by decide) ?_
  refine w_callV (as := [.int (nI 8), .int (nI 248), .int (nI 255)]) (st := []) d_MO_fillNamed_186 yM_MO_addRange l_MO_123 vM_MO_addRange x2 rfl rfl rfl rfl (m_MO_addRange (t := 8) (a := 248) (c := 255) x2 E2 (by decide) (by decide) (by decide) (by decide) (by decide) (by rw [q2]; exact ⟨(by unfold eAsc; decide), (by decide)⟩) (by rw [q2]; decide) (by rw [r2]; intro y hy; cases hy)) (by decide) (by decide) (by decide) (by decide) (Nat.le_of_ble_eq_true rfl) ?_
  rintro _ g3 ⟨rfl, o3, F3, T3, E3, p3, u3, k3⟩
  refine w_eq (st' := []) rfl ?_
  have x3 := (o3 57 (by omega)).trans x2
  have O3 := O2.tr o3
  have q3 : F3 8 = [97, 123, 223, 247, 248, 256] := by rw [p3, q2]; exact pw_app ⟨(by unfold eAsc; decide), (by decide)⟩ (by decide) (by decide) (by decide) (by decide)
  have r3 : T3 8 = [] := u3.trans r2
  have K3 : ∀ j, j < 8 ∨ j = 11 → F3 j = EE j ∧ T3 j = SS j := fun j hj => ⟨(k3 j (by omega) (by omega) (by omega)).1.trans (K2 j hj).1, (k3 j (by omega) (by omega) (by omega)).2.trans (K2 j hj).2⟩
  refine w_goto (tgt := 311) d_MO_fillNamed_189 rfl ?_
  rw [← hEN]
  refine w_vret d_MO_fillNamed_311 rfl ?_
  exact ⟨rfl, fun j _ hj => O3 j (by omega), (by rw [show decide (¬ nmN (nmL.getD 5 []) = -1) = true by decide]; exact x3), F3, T3, E3, K3, fun _ => ⟨q3.trans (by decide), r3⟩⟩
set_option maxHeartbeats 4000000 in
set_option maxRecDepth 100000 in
theorem m_MO_fill_6 {h : wH} {sz ap dp wr fi : Int32} (hx : h[57]? = some (.inr (7, [.ref 58, .int (sz), .ref 59, .ref 60, .ref 61, .ref 62, .int (ap), .int (nI 1), .int (dp), .ref 63, .ref 64, .ref 65, .ref 66, .int (wr), .int (fi), .ref 67]))) {EE SS : Nat → List Nat} (hE : mE h EE SS) (he : EE 8 = []) (hse : SS 8 = []) : PM X M_MO_fillNamed 5 0 0 [.ref 57, .long (lN 3738208908018)] h (fun z h' => z = none ∧ (∀ j, j ≠ 57 → (j < 59 ∨ 63 ≤ j) → h'[j]? = h[j]?) ∧ h'[57]? = some (.inr (7, [.ref 58, .int (sz), .ref 59, .ref 60, .ref 61, .ref 62, .int (ap), .int (bI (decide (¬ nmN (nmL.getD 6 []) = -1))), .int (dp), .ref 63, .ref 64, .ref 65, .ref 66, .int (wr), .int (fi), .ref 67])) ∧ ∃ EE' SS' : Nat → List Nat, mE h' EE' SS' ∧ (∀ j, j < 8 ∨ j = 11 → EE' j = EE j ∧ SS' j = SS j) ∧ (¬ nmN (nmL.getD 6 []) = -1 → EE' 8 = rTab (nmN (nmL.getD 6 [])) ∧ SS' 8 = [])) := by
  refine PM.at (pl := [some (.ref 57), some (.long (lN 3738208908018)), none]) rfl rfl (by simp [wle, wen]) ?_
  generalize hEN : wEm X 0 0 _ = EN
  refine w_lload_n d_MO_fillNamed_0 rfl ?_
  refine w_ldc2 (v := lN 1603449) d_MO_fillNamed_1 k_MO_120 ?_
  refine w_lcmp d_MO_fillNamed_4 ?_
  refine w_if_ne (tgt := 20) d_MO_fillNamed_5 rfl (fun _ => ?_) (fun z => absurd z (by decide))
  refine w_lload_n d_MO_fillNamed_20 rfl ?_
  refine w_ldc2 (v := lN 26281047273) d_MO_fillNamed_21 k_MO_126 ?_
  refine w_lcmp d_MO_fillNamed_24 ?_
  refine w_if_ne (tgt := 40) d_MO_fillNamed_25 rfl (fun _ => ?_) (fun z => absurd z (by decide))
  refine w_lload_n d_MO_fillNamed_40 rfl ?_
  refine w_ldc2 (v := lN 27065447668) d_MO_fillNamed_41 k_MO_128 ?_
  refine w_lcmp d_MO_fillNamed_44 ?_
  refine w_if_ne (tgt := 61) d_MO_fillNamed_45 rfl (fun _ => ?_) (fun z => absurd z (by decide))
  refine w_lload_n d_MO_fillNamed_61 rfl ?_
  refine w_ldc2 (v := lN 58995148087489780) d_MO_fillNamed_62 k_MO_130 ?_
  refine w_lcmp d_MO_fillNamed_65 ?_
  refine w_if_ne (tgt := 102) d_MO_fillNamed_66 rfl (fun _ => ?_) (fun z => absurd z (by decide))
  refine w_lload_n d_MO_fillNamed_102 rfl ?_
  refine w_ldc2 (v := lN 31643677426) d_MO_fillNamed_103 k_MO_132 ?_
  refine w_lcmp d_MO_fillNamed_106 ?_
  refine w_if_ne (tgt := 147) d_MO_fillNamed_107 rfl (fun _ => ?_) (fun z => absurd z (by decide))
  refine w_lload_n d_MO_fillNamed_147 rfl ?_
  refine w_ldc2 (v := lN 29225775858) d_MO_fillNamed_148 k_MO_134 ?_
  refine w_lcmp d_MO_fillNamed_151 ?_
  refine w_if_ne (tgt := 192) d_MO_fillNamed_152 rfl (fun _ => ?_) (fun z => absurd z (by decide))
  refine w_lload_n d_MO_fillNamed_192 rfl ?_
  refine w_ldc2 (v := lN 3738208908018) d_MO_fillNamed_193 k_MO_136 ?_
  refine w_lcmp d_MO_fillNamed_196 ?_
  refine w_if_ne (tgt := 207) d_MO_fillNamed_197 rfl (fun z => absurd (by decide) z) (fun _ => ?_)
  refine w_aload_n d_MO_fillNamed_200 rfl rfl ?_
  refine w_callV (as := []) (st := []) d_MO_fillNamed_201 yM_MO_fillLetters l_MO_138 vM_MO_fillLetters hx rfl rfl rfl rfl (m_MO_fillLetters hx hE he hse) (by decide) (by decide) (by decide) (by decide) (Nat.le_of_ble_eq_true rfl) ?_
  rintro _ g1 ⟨rfl, O1, F1, T1, E1, q1, r1, K1⟩
  refine w_eq (st' := []) rfl ?_
  have x1 := (O1 57 (by omega)).trans hx
  refine w_goto (tgt := 311) d_MO_fillNamed_204 rfl ?_
  rw [← hEN]
  refine w_vret d_MO_fillNamed_311 rfl ?_
  exact ⟨rfl, fun j _ hj => O1 j (by omega), (by rw [show decide (¬ nmN (nmL.getD 6 []) = -1) = true by decide]; exact x1), F1, T1, E1, K1, fun _ => ⟨q1.trans (by decide), r1⟩⟩
set_option maxHeartbeats 4000000 in
set_option maxRecDepth 100000 in
theorem m_MO_fill_7 {h : wH} {sz ap dp wr fi : Int32} (hx : h[57]? = some (.inr (7, [.ref 58, .int (sz), .ref 59, .ref 60, .ref 61, .ref 62, .int (ap), .int (nI 1), .int (dp), .ref 63, .ref 64, .ref 65, .ref 66, .int (wr), .int (fi), .ref 67]))) {EE SS : Nat → List Nat} (hE : mE h EE SS) (he : EE 8 = []) (hse : SS 8 = []) : PM X M_MO_fillNamed 5 0 0 [.ref 57, .long (lN 27889595115)] h (fun z h' => z = none ∧ (∀ j, j ≠ 57 → (j < 59 ∨ 63 ≤ j) → h'[j]? = h[j]?) ∧ h'[57]? = some (.inr (7, [.ref 58, .int (sz), .ref 59, .ref 60, .ref 61, .ref 62, .int (ap), .int (bI (decide (¬ nmN (nmL.getD 7 []) = -1))), .int (dp), .ref 63, .ref 64, .ref 65, .ref 66, .int (wr), .int (fi), .ref 67])) ∧ ∃ EE' SS' : Nat → List Nat, mE h' EE' SS' ∧ (∀ j, j < 8 ∨ j = 11 → EE' j = EE j ∧ SS' j = SS j) ∧ (¬ nmN (nmL.getD 7 []) = -1 → EE' 8 = rTab (nmN (nmL.getD 7 [])) ∧ SS' 8 = [])) := by
  refine PM.at (pl := [some (.ref 57), some (.long (lN 27889595115)), none]) rfl rfl (by simp [wle, wen]) ?_
  generalize hEN : wEm X 0 0 _ = EN
  refine w_lload_n d_MO_fillNamed_0 rfl ?_
  refine w_ldc2 (v := lN 1603449) d_MO_fillNamed_1 k_MO_120 ?_
  refine w_lcmp d_MO_fillNamed_4 ?_
  refine w_if_ne (tgt := 20) d_MO_fillNamed_5 rfl (fun _ => ?_) (fun z => absurd z (by decide))
  refine w_lload_n d_MO_fillNamed_20 rfl ?_
  refine w_ldc2 (v := lN 26281047273) d_MO_fillNamed_21 k_MO_126 ?_
  refine w_lcmp d_MO_fillNamed_24 ?_
  refine w_if_ne (tgt := 40) d_MO_fillNamed_25 rfl (fun _ => ?_) (fun z => absurd z (by decide))
  refine w_lload_n d_MO_fillNamed_40 rfl ?_
  refine w_ldc2 (v := lN 27065447668) d_MO_fillNamed_41 k_MO_128 ?_
  refine w_lcmp d_MO_fillNamed_44 ?_
  refine w_if_ne (tgt := 61) d_MO_fillNamed_45 rfl (fun _ => ?_) (fun z => absurd z (by decide))
  refine w_lload_n d_MO_fillNamed_61 rfl ?_
  refine w_ldc2 (v := lN 58995148087489780) d_MO_fillNamed_62 k_MO_130 ?_
  refine w_lcmp d_MO_fillNamed_65 ?_
  refine w_if_ne (tgt := 102) d_MO_fillNamed_66 rfl (fun _ => ?_) (fun z => absurd z (by decide))
  refine w_lload_n d_MO_fillNamed_102 rfl ?_
  refine w_ldc2 (v := lN 31643677426) d_MO_fillNamed_103 k_MO_132 ?_
  refine w_lcmp d_MO_fillNamed_106 ?_
  refine w_if_ne (tgt := 147) d_MO_fillNamed_107 rfl (fun _ => ?_) (fun z => absurd z (by decide))
  refine w_lload_n d_MO_fillNamed_147 rfl ?_
  refine w_ldc2 (v := lN 29225775858) d_MO_fillNamed_148 k_MO_134 ?_
  refine w_lcmp d_MO_fillNamed_151 ?_
  refine w_if_ne (tgt := 192) d_MO_fillNamed_152 rfl (fun _ => ?_) (fun z => absurd z (by decide))
  refine w_lload_n d_MO_fillNamed_192 rfl ?_
  refine w_ldc2 (v := lN 3738208908018) d_MO_fillNamed_193 k_MO_136 ?_
  refine w_lcmp d_MO_fillNamed_196 ?_
  refine w_if_ne (tgt := 207) d_MO_fillNamed_197 rfl (fun _ => ?_) (fun z => absurd z (by decide))
  refine w_lload_n d_MO_fillNamed_207 rfl ?_
  refine w_ldc2 (v := lN 27889595115) d_MO_fillNamed_208 k_MO_141 ?_
  refine w_lcmp d_MO_fillNamed_211 ?_
  refine w_if_ne (tgt := 230) d_MO_fillNamed_212 rfl (fun z => absurd (by decide) z) (fun _ => ?_)
  refine w_aload_n d_MO_fillNamed_215 rfl rfl ?_
  refine w_bipush (v := nI 8) d_MO_fillNamed_216 (by decide) ?_
  refine w_sipush (v := nI 880) d_MO_fillNamed_218 (by decide) ?_
  refine w_sipush (v := nI 1023) d_MO_fillNamed_221 (by decide) ?_
  refine w_callV (as := [.int (nI 8), .int (nI 880), .int (nI 1023)]) (st := []) d_MO_fillNamed_224 yM_MO_addRange l_MO_123 vM_MO_addRange hx rfl rfl rfl rfl (m_MO_addRange (t := 8) (a := 880) (c := 1023) hx hE (by decide) (by decide) (by decide) (by decide) (by decide) (by rw [he]; exact ⟨(by unfold eAsc; decide), (by decide)⟩) (by rw [he]; decide) (by rw [hse]; intro y hy; cases hy)) (by decide) (by decide) (by decide) (by decide) (Nat.le_of_ble_eq_true rfl) ?_
  rintro _ g1 ⟨rfl, o1, F1, T1, E1, p1, u1, k1⟩
  refine w_eq (st' := []) rfl ?_
  have x1 := (o1 57 (by omega)).trans hx
  have O1 := o1
  have q1 : F1 8 = [880, 1024] := by rw [p1, he]; exact pw_app ⟨(by unfold eAsc; decide), (by decide)⟩ (by decide) (by decide) (by decide) (by decide)
  have r1 : T1 8 = [] := u1.trans hse
  have K1 : ∀ j, j < 8 ∨ j = 11 → F1 j = EE j ∧ T1 j = SS j := fun j hj => k1 j (by omega) (by omega) (by omega)
  refine w_goto (tgt := 311) d_MO_fillNamed_227 rfl ?_
  rw [← hEN]
  refine w_vret d_MO_fillNamed_311 rfl ?_
  exact ⟨rfl, fun j _ hj => O1 j (by omega), (by rw [show decide (¬ nmN (nmL.getD 7 []) = -1) = true by decide]; exact x1), F1, T1, E1, K1, fun _ => ⟨q1.trans (by decide), r1⟩⟩
set_option maxHeartbeats 4000000 in
set_option maxRecDepth 100000 in
theorem m_MO_fill_8 {h : wH} {sz ap dp wr fi : Int32} (hx : h[57]? = some (.inr (7, [.ref 58, .int (sz), .ref 59, .ref 60, .ref 61, .ref 62, .int (ap), .int (nI 1), .int (dp), .ref 63, .ref 64, .ref 65, .ref 66, .int (wr), .int (fi), .ref 67]))) {EE SS : Nat → List Nat} (hE : mE h EE SS) (he : EE 8 = []) (hse : SS 8 = []) : PM X M_MO_fillNamed 5 0 0 [.ref 57, .long (lN 31106560485)] h (fun z h' => z = none ∧ (∀ j, j ≠ 57 → (j < 59 ∨ 63 ≤ j) → h'[j]? = h[j]?) ∧ h'[57]? = some (.inr (7, [.ref 58, .int (sz), .ref 59, .ref 60, .ref 61, .ref 62, .int (ap), .int (bI (decide (¬ nmN (nmL.getD 8 []) = -1))), .int (dp), .ref 63, .ref 64, .ref 65, .ref 66, .int (wr), .int (fi), .ref 67])) ∧ ∃ EE' SS' : Nat → List Nat, mE h' EE' SS' ∧ (∀ j, j < 8 ∨ j = 11 → EE' j = EE j ∧ SS' j = SS j) ∧ (¬ nmN (nmL.getD 8 []) = -1 → EE' 8 = rTab (nmN (nmL.getD 8 [])) ∧ SS' 8 = [])) := by
  refine PM.at (pl := [some (.ref 57), some (.long (lN 31106560485)), none]) rfl rfl (by simp [wle, wen]) ?_
  generalize hEN : wEm X 0 0 _ = EN
  refine w_lload_n d_MO_fillNamed_0 rfl ?_
  refine w_ldc2 (v := lN 1603449) d_MO_fillNamed_1 k_MO_120 ?_
  refine w_lcmp d_MO_fillNamed_4 ?_
  refine w_if_ne (tgt := 20) d_MO_fillNamed_5 rfl (fun _ => ?_) (fun z => absurd z (by decide))
  refine w_lload_n d_MO_fillNamed_20 rfl ?_
  refine w_ldc2 (v := lN 26281047273) d_MO_fillNamed_21 k_MO_126 ?_
  refine w_lcmp d_MO_fillNamed_24 ?_
  refine w_if_ne (tgt := 40) d_MO_fillNamed_25 rfl (fun _ => ?_) (fun z => absurd z (by decide))
  refine w_lload_n d_MO_fillNamed_40 rfl ?_
  refine w_ldc2 (v := lN 27065447668) d_MO_fillNamed_41 k_MO_128 ?_
  refine w_lcmp d_MO_fillNamed_44 ?_
  refine w_if_ne (tgt := 61) d_MO_fillNamed_45 rfl (fun _ => ?_) (fun z => absurd z (by decide))
  refine w_lload_n d_MO_fillNamed_61 rfl ?_
  refine w_ldc2 (v := lN 58995148087489780) d_MO_fillNamed_62 k_MO_130 ?_
  refine w_lcmp d_MO_fillNamed_65 ?_
  refine w_if_ne (tgt := 102) d_MO_fillNamed_66 rfl (fun _ => ?_) (fun z => absurd z (by decide))
  refine w_lload_n d_MO_fillNamed_102 rfl ?_
  refine w_ldc2 (v := lN 31643677426) d_MO_fillNamed_103 k_MO_132 ?_
  refine w_lcmp d_MO_fillNamed_106 ?_
  refine w_if_ne (tgt := 147) d_MO_fillNamed_107 rfl (fun _ => ?_) (fun z => absurd z (by decide))
  refine w_lload_n d_MO_fillNamed_147 rfl ?_
  refine w_ldc2 (v := lN 29225775858) d_MO_fillNamed_148 k_MO_134 ?_
  refine w_lcmp d_MO_fillNamed_151 ?_
  refine w_if_ne (tgt := 192) d_MO_fillNamed_152 rfl (fun _ => ?_) (fun z => absurd z (by decide))
  refine w_lload_n d_MO_fillNamed_192 rfl ?_
  refine w_ldc2 (v := lN 3738208908018) d_MO_fillNamed_193 k_MO_136 ?_
  refine w_lcmp d_MO_fillNamed_196 ?_
  refine w_if_ne (tgt := 207) d_MO_fillNamed_197 rfl (fun _ => ?_) (fun z => absurd z (by decide))
  refine w_lload_n d_MO_fillNamed_207 rfl ?_
  refine w_ldc2 (v := lN 27889595115) d_MO_fillNamed_208 k_MO_141 ?_
  refine w_lcmp d_MO_fillNamed_211 ?_
  refine w_if_ne (tgt := 230) d_MO_fillNamed_212 rfl (fun _ => ?_) (fun z => absurd z (by decide))
  refine w_lload_n d_MO_fillNamed_230 rfl ?_
  refine w_ldc2 (v := lN 31106560485) d_MO_fillNamed_231 k_MO_143 ?_
  refine w_lcmp d_MO_fillNamed_234 ?_
  refine w_if_ne (tgt := 285) d_MO_fillNamed_235 rfl (fun z => absurd (by decide) z) (fun _ => ?_)
  refine w_aload_n d_MO_fillNamed_238 rfl rfl ?_
  refine w_bipush (v := nI 8) d_MO_fillNamed_239 (by decide) ?_
  refine w_bipush (v := nI 9) d_MO_fillNamed_241 (by decide) ?_
  refine w_bipush (v := nI 13) d_MO_fillNamed_243 (by decide) ?_
  refine w_callV (as := [.int (nI 8), .int (nI 9), .int (nI 13)]) (st := []) d_MO_fillNamed_245 yM_MO_addRange l_MO_123 vM_MO_addRange hx rfl rfl rfl rfl (m_MO_addRange (t := 8) (a := 9) (c := 13) hx hE (by decide) (by decide) (by decide) (by decide) (by decide) (by rw [he]; exact ⟨(by unfold eAsc; decide), (by decide)⟩) (by rw [he]; decide) (by rw [hse]; intro y hy; cases hy)) (by decide) (by decide) (by decide) (by decide) (Nat.le_of_ble_eq_true rfl) ?_
  rintro _ g1 ⟨rfl, o1, F1, T1, E1, p1, u1, k1⟩
  refine w_eq (st' := []) rfl ?_
  have x1 := (o1 57 (by omega)).trans hx
  have O1 := o1
  have q1 : F1 8 = [9, 14] := by rw [p1, he]; exact pw_app ⟨(by unfold eAsc; decide), (by decide)⟩ (by decide) (by decide) (by decide) (by decide)
  have r1 : T1 8 = [] := u1.trans hse
  have K1 : ∀ j, j < 8 ∨ j = 11 → F1 j = EE j ∧ T1 j = SS j := fun j hj => k1 j (by omega) (by omega) (by omega)
  refine w_aload_n d_MO_fillNamed_248 rfl rfl ?_
  refine w_bipush (v := nI 8) d_MO_fillNamed_249 (by decide) ?_
  refine w_bipush (v := nI 32) d_MO_fillNamed_251 (by decide) ?_
  refine w_bipush (v := nI 32) d_MO_fillNamed_253 (by decide) ?_
  refine w_callV (as := [.int (nI 8), .int (nI 32), .int (nI 32)]) (st := []) d_MO_fillNamed_255 yM_MO_addRange l_MO_123 vM_MO_addRange x1 rfl rfl rfl rfl (m_MO_addRange (t := 8) (a := 32) (c := 32) x1 E1 (by decide) (by decide) (by decide) (by decide) (by decide) (by rw [q1]; exact ⟨(by unfold eAsc; decide), (by decide)⟩) (by rw [q1]; decide) (by rw [r1]; intro y hy; cases hy)) (by decide) (by decide) (by decide) (by decide) (Nat.le_of_ble_eq_true rfl) ?_
  rintro _ g2 ⟨rfl, o2, F2, T2, E2, p2, u2, k2⟩
  refine w_eq (st' := []) rfl ?_
  have x2 := (o2 57 (by omega)).trans x1
  have O2 := O1.tr o2
  have q2 : F2 8 = [9, 14, 32, 33] := by rw [p2, q1]; exact pw_app ⟨(by unfold eAsc; decide), (by decide)⟩ (by decide) (by decide) (by decide) (by decide)
  have r2 : T2 8 = [] := u2.trans r1
  have K2 : ∀ j, j < 8 ∨ j = 11 → F2 j = EE j ∧ T2 j = SS j := fun j hj => ⟨(k2 j (by omega) (by omega) (by omega)).1.trans (K1 j hj).1, (k2 j (by omega) (by omega) (by omega)).2.trans (K1 j hj).2⟩
  refine w_aload_n d_MO_fillNamed_258 rfl rfl ?_
  refine w_bipush (v := nI 8) d_MO_fillNamed_259 (by decide) ?_
  refine w_sipush (v := nI 133) d_MO_fillNamed_261 (by decide) ?_
  refine w_sipush (v := nI 133) d_MO_fillNamed_264 (by decide) ?_
  refine w_callV (as := [.int (nI 8), .int (nI 133), .int (nI 133)]) (st := []) d_MO_fillNamed_267 yM_MO_addRange l_MO_123 vM_MO_addRange x2 rfl rfl rfl rfl (m_MO_addRange (t := 8) (a := 133) (c := 133) x2 E2 (by decide) (by decide) (by decide) (by decide) (by decide) (by rw [q2]; exact ⟨(by unfold eAsc; decide), (by decide)⟩) (by rw [q2]; decide) (by rw [r2]; intro y hy; cases hy)) (by decide) (by decide) (by decide) (by decide) (Nat.le_of_ble_eq_true rfl) ?_
  rintro _ g3 ⟨rfl, o3, F3, T3, E3, p3, u3, k3⟩
  refine w_eq (st' := []) rfl ?_
  have x3 := (o3 57 (by omega)).trans x2
  have O3 := O2.tr o3
  have q3 : F3 8 = [9, 14, 32, 33, 133, 134] := by rw [p3, q2]; exact pw_app ⟨(by unfold eAsc; decide), (by decide)⟩ (by decide) (by decide) (by decide) (by decide)
  have r3 : T3 8 = [] := u3.trans r2
  have K3 : ∀ j, j < 8 ∨ j = 11 → F3 j = EE j ∧ T3 j = SS j := fun j hj => ⟨(k3 j (by omega) (by omega) (by omega)).1.trans (K2 j hj).1, (k3 j (by omega) (by omega) (by omega)).2.trans (K2 j hj).2⟩
  refine w_aload_n d_MO_fillNamed_270 rfl rfl ?_
  refine w_bipush (v := nI 8) d_MO_fillNamed_271 (by decide) ?_
  refine w_sipush (v := nI 160) d_MO_fillNamed_273 (by decide) ?_
  refine w_sipush (v := nI 160) d_MO_fillNamed_276 (by decide) ?_
  refine w_callV (as := [.int (nI 8), .int (nI 160), .int (nI 160)]) (st := []) d_MO_fillNamed_279 yM_MO_addRange l_MO_123 vM_MO_addRange x3 rfl rfl rfl rfl (m_MO_addRange (t := 8) (a := 160) (c := 160) x3 E3 (by decide) (by decide) (by decide) (by decide) (by decide) (by rw [q3]; exact ⟨(by unfold eAsc; decide), (by decide)⟩) (by rw [q3]; decide) (by rw [r3]; intro y hy; cases hy)) (by decide) (by decide) (by decide) (by decide) (Nat.le_of_ble_eq_true rfl) ?_
  rintro _ g4 ⟨rfl, o4, F4, T4, E4, p4, u4, k4⟩
  refine w_eq (st' := []) rfl ?_
  have x4 := (o4 57 (by omega)).trans x3
  have O4 := O3.tr o4
  have q4 : F4 8 = [9, 14, 32, 33, 133, 134, 160, 161] := by rw [p4, q3]; exact pw_app ⟨(by unfold eAsc; decide), (by decide)⟩ (by decide) (by decide) (by decide) (by decide)
  have r4 : T4 8 = [] := u4.trans r3
  have K4 : ∀ j, j < 8 ∨ j = 11 → F4 j = EE j ∧ T4 j = SS j := fun j hj => ⟨(k4 j (by omega) (by omega) (by omega)).1.trans (K3 j hj).1, (k4 j (by omega) (by omega) (by omega)).2.trans (K3 j hj).2⟩
  refine w_goto (tgt := 311) d_MO_fillNamed_282 rfl ?_
  rw [← hEN]
  refine w_vret d_MO_fillNamed_311 rfl ?_
  exact ⟨rfl, fun j _ hj => O4 j (by omega), (by rw [show decide (¬ nmN (nmL.getD 8 []) = -1) = true by decide]; exact x4), F4, T4, E4, K4, fun _ => ⟨q4.trans (by decide), r4⟩⟩
set_option maxHeartbeats 4000000 in
set_option maxRecDepth 100000 in
theorem m_MO_fill_9 {h : wH} {sz ap dp wr fi : Int32} (hx : h[57]? = some (.inr (7, [.ref 58, .int (sz), .ref 59, .ref 60, .ref 61, .ref 62, .int (ap), .int (nI 1), .int (dp), .ref 63, .ref 64, .ref 65, .ref 66, .int (wr), .int (fi), .ref 67]))) {EE SS : Nat → List Nat} (hE : mE h EE SS) (he : EE 8 = []) (hse : SS 8 = []) : PM X M_MO_fillNamed 5 0 0 [.ref 57, .long (lN 8352993783238392421)] h (fun z h' => z = none ∧ (∀ j, j ≠ 57 → (j < 59 ∨ 63 ≤ j) → h'[j]? = h[j]?) ∧ h'[57]? = some (.inr (7, [.ref 58, .int (sz), .ref 59, .ref 60, .ref 61, .ref 62, .int (ap), .int (bI (decide (¬ nmN (nmL.getD 9 []) = -1))), .int (dp), .ref 63, .ref 64, .ref 65, .ref 66, .int (wr), .int (fi), .ref 67])) ∧ ∃ EE' SS' : Nat → List Nat, mE h' EE' SS' ∧ (∀ j, j < 8 ∨ j = 11 → EE' j = EE j ∧ SS' j = SS j) ∧ (¬ nmN (nmL.getD 9 []) = -1 → EE' 8 = rTab (nmN (nmL.getD 9 [])) ∧ SS' 8 = [])) := by
  refine PM.at (pl := [some (.ref 57), some (.long (lN 8352993783238392421)), none]) rfl rfl (by simp [wle, wen]) ?_
  generalize hEN : wEm X 0 0 _ = EN
  refine w_lload_n d_MO_fillNamed_0 rfl ?_
  refine w_ldc2 (v := lN 1603449) d_MO_fillNamed_1 k_MO_120 ?_
  refine w_lcmp d_MO_fillNamed_4 ?_
  refine w_if_ne (tgt := 20) d_MO_fillNamed_5 rfl (fun _ => ?_) (fun z => absurd z (by decide))
  refine w_lload_n d_MO_fillNamed_20 rfl ?_
  refine w_ldc2 (v := lN 26281047273) d_MO_fillNamed_21 k_MO_126 ?_
  refine w_lcmp d_MO_fillNamed_24 ?_
  refine w_if_ne (tgt := 40) d_MO_fillNamed_25 rfl (fun _ => ?_) (fun z => absurd z (by decide))
  refine w_lload_n d_MO_fillNamed_40 rfl ?_
  refine w_ldc2 (v := lN 27065447668) d_MO_fillNamed_41 k_MO_128 ?_
  refine w_lcmp d_MO_fillNamed_44 ?_
  refine w_if_ne (tgt := 61) d_MO_fillNamed_45 rfl (fun _ => ?_) (fun z => absurd z (by decide))
  refine w_lload_n d_MO_fillNamed_61 rfl ?_
  refine w_ldc2 (v := lN 58995148087489780) d_MO_fillNamed_62 k_MO_130 ?_
  refine w_lcmp d_MO_fillNamed_65 ?_
  refine w_if_ne (tgt := 102) d_MO_fillNamed_66 rfl (fun _ => ?_) (fun z => absurd z (by decide))
  refine w_lload_n d_MO_fillNamed_102 rfl ?_
  refine w_ldc2 (v := lN 31643677426) d_MO_fillNamed_103 k_MO_132 ?_
  refine w_lcmp d_MO_fillNamed_106 ?_
  refine w_if_ne (tgt := 147) d_MO_fillNamed_107 rfl (fun _ => ?_) (fun z => absurd z (by decide))
  refine w_lload_n d_MO_fillNamed_147 rfl ?_
  refine w_ldc2 (v := lN 29225775858) d_MO_fillNamed_148 k_MO_134 ?_
  refine w_lcmp d_MO_fillNamed_151 ?_
  refine w_if_ne (tgt := 192) d_MO_fillNamed_152 rfl (fun _ => ?_) (fun z => absurd z (by decide))
  refine w_lload_n d_MO_fillNamed_192 rfl ?_
  refine w_ldc2 (v := lN 3738208908018) d_MO_fillNamed_193 k_MO_136 ?_
  refine w_lcmp d_MO_fillNamed_196 ?_
  refine w_if_ne (tgt := 207) d_MO_fillNamed_197 rfl (fun _ => ?_) (fun z => absurd z (by decide))
  refine w_lload_n d_MO_fillNamed_207 rfl ?_
  refine w_ldc2 (v := lN 27889595115) d_MO_fillNamed_208 k_MO_141 ?_
  refine w_lcmp d_MO_fillNamed_211 ?_
  refine w_if_ne (tgt := 230) d_MO_fillNamed_212 rfl (fun _ => ?_) (fun z => absurd z (by decide))
  refine w_lload_n d_MO_fillNamed_230 rfl ?_
  refine w_ldc2 (v := lN 31106560485) d_MO_fillNamed_231 k_MO_143 ?_
  refine w_lcmp d_MO_fillNamed_234 ?_
  refine w_if_ne (tgt := 285) d_MO_fillNamed_235 rfl (fun _ => ?_) (fun z => absurd z (by decide))
  refine w_lload_n d_MO_fillNamed_285 rfl ?_
  refine w_ldc2 (v := lN 8352993783238392421) d_MO_fillNamed_286 k_MO_145 ?_
  refine w_lcmp d_MO_fillNamed_289 ?_
  refine w_if_ne (tgt := 306) d_MO_fillNamed_290 rfl (fun z => absurd (by decide) z) (fun _ => ?_)
  refine w_aload_n d_MO_fillNamed_293 rfl rfl ?_
  refine w_bipush (v := nI 8) d_MO_fillNamed_294 (by decide) ?_
  refine w_ldc (v := nI 55296) d_MO_fillNamed_296 k_MO_147 ?_
  refine w_ldc (v := nI 57343) d_MO_fillNamed_298 k_MO_148 ?_
  refine w_callV (as := [.int (nI 8), .int (nI 55296), .int (nI 57343)]) (st := []) d_MO_fillNamed_300 yM_MO_addRange l_MO_123 vM_MO_addRange hx rfl rfl rfl rfl (m_MO_addRange (t := 8) (a := 55296) (c := 57343) hx hE (by decide) (by decide) (by decide) (by decide) (by decide) (by rw [he]; exact ⟨(by unfold eAsc; decide), (by decide)⟩) (by rw [he]; decide) (by rw [hse]; intro y hy; cases hy)) (by decide) (by decide) (by decide) (by decide) (Nat.le_of_ble_eq_true rfl) ?_
  rintro _ g1 ⟨rfl, o1, F1, T1, E1, p1, u1, k1⟩
  refine w_eq (st' := []) rfl ?_
  have x1 := (o1 57 (by omega)).trans hx
  have O1 := o1
  have q1 : F1 8 = [55296, 57344] := by rw [p1, he]; exact pw_app ⟨(by unfold eAsc; decide), (by decide)⟩ (by decide) (by decide) (by decide) (by decide)
  have r1 : T1 8 = [] := u1.trans hse
  have K1 : ∀ j, j < 8 ∨ j = 11 → F1 j = EE j ∧ T1 j = SS j := fun j hj => k1 j (by omega) (by omega) (by omega)
  refine w_goto (tgt := 311) d_MO_fillNamed_303 rfl ?_
  rw [← hEN]
  refine w_vret d_MO_fillNamed_311 rfl ?_
  exact ⟨rfl, fun j _ hj => O1 j (by omega), (by rw [show decide (¬ nmN (nmL.getD 9 []) = -1) = true by decide]; exact x1), F1, T1, E1, K1, fun _ => ⟨q1.trans (by decide), r1⟩⟩
set_option maxHeartbeats 4000000 in
set_option maxRecDepth 100000 in
theorem m_MO_fill_no {h : wH} {sz ap dp wr fi : Int32} (hx : h[57]? = some (.inr (7, [.ref 58, .int (sz), .ref 59, .ref 60, .ref 61, .ref 62, .int (ap), .int (nI 1), .int (dp), .ref 63, .ref 64, .ref 65, .ref 66, .int (wr), .int (fi), .ref 67]))) {EE SS : Nat → List Nat} (hE : mE h EE SS) {l : List Nat} (h9 : l.length ≤ 9) (hl : ∀ x ∈ l, 1 ≤ x ∧ x < 128) (hno : nmN l = -1) : PM X M_MO_fillNamed 5 0 0 [.ref 57, .long (lN (wdN l))] h (fun z h' => z = none ∧ (∀ j, j ≠ 57 → (j < 59 ∨ 63 ≤ j) → h'[j]? = h[j]?) ∧ h'[57]? = some (.inr (7, [.ref 58, .int (sz), .ref 59, .ref 60, .ref 61, .ref 62, .int (ap), .int (bI (decide (¬ nmN l = -1))), .int (dp), .ref 63, .ref 64, .ref 65, .ref 66, .int (wr), .int (fi), .ref 67])) ∧ ∃ EE' SS' : Nat → List Nat, mE h' EE' SS' ∧ (∀ j, j < 8 ∨ j = 11 → EE' j = EE j ∧ SS' j = SS j) ∧ (¬ nmN l = -1 → EE' 8 = rTab (nmN l) ∧ SS' 8 = [])) := by
  refine PM.at (pl := [some (.ref 57), some (.long (lN (wdN l))), none]) rfl rfl (by simp [wle, wen]) ?_
  generalize hEN : wEm X 0 0 _ = EN
  refine w_lload_n d_MO_fillNamed_0 rfl ?_
  refine w_ldc2 (v := lN 1603449) d_MO_fillNamed_1 k_MO_120 ?_
  refine w_lcmp d_MO_fillNamed_4 ?_
  refine w_if_ne (tgt := 20) d_MO_fillNamed_5 rfl (fun _ => ?_) (fun z => absurd z (wd_lg h9 hl (by decide) (wd_ne hl hno (i := 0) (by decide))))
  refine w_lload_n d_MO_fillNamed_20 rfl ?_
  refine w_ldc2 (v := lN 26281047273) d_MO_fillNamed_21 k_MO_126 ?_
  refine w_lcmp d_MO_fillNamed_24 ?_
  refine w_if_ne (tgt := 40) d_MO_fillNamed_25 rfl (fun _ => ?_) (fun z => absurd z (wd_lg h9 hl (by decide) (wd_ne hl hno (i := 1) (by decide))))
  refine w_lload_n d_MO_fillNamed_40 rfl ?_
  refine w_ldc2 (v := lN 27065447668) d_MO_fillNamed_41 k_MO_128 ?_
  refine w_lcmp d_MO_fillNamed_44 ?_
  refine w_if_ne (tgt := 61) d_MO_fillNamed_45 rfl (fun _ => ?_) (fun z => absurd z (wd_lg h9 hl (by decide) (wd_ne hl hno (i := 2) (by decide))))
  refine w_lload_n d_MO_fillNamed_61 rfl ?_
  refine w_ldc2 (v := lN 58995148087489780) d_MO_fillNamed_62 k_MO_130 ?_
  refine w_lcmp d_MO_fillNamed_65 ?_
  refine w_if_ne (tgt := 102) d_MO_fillNamed_66 rfl (fun _ => ?_) (fun z => absurd z (wd_lg h9 hl (by decide) (wd_ne hl hno (i := 3) (by decide))))
  refine w_lload_n d_MO_fillNamed_102 rfl ?_
  refine w_ldc2 (v := lN 31643677426) d_MO_fillNamed_103 k_MO_132 ?_
  refine w_lcmp d_MO_fillNamed_106 ?_
  refine w_if_ne (tgt := 147) d_MO_fillNamed_107 rfl (fun _ => ?_) (fun z => absurd z (wd_lg h9 hl (by decide) (wd_ne hl hno (i := 4) (by decide))))
  refine w_lload_n d_MO_fillNamed_147 rfl ?_
  refine w_ldc2 (v := lN 29225775858) d_MO_fillNamed_148 k_MO_134 ?_
  refine w_lcmp d_MO_fillNamed_151 ?_
  refine w_if_ne (tgt := 192) d_MO_fillNamed_152 rfl (fun _ => ?_) (fun z => absurd z (wd_lg h9 hl (by decide) (wd_ne hl hno (i := 5) (by decide))))
  refine w_lload_n d_MO_fillNamed_192 rfl ?_
  refine w_ldc2 (v := lN 3738208908018) d_MO_fillNamed_193 k_MO_136 ?_
  refine w_lcmp d_MO_fillNamed_196 ?_
  refine w_if_ne (tgt := 207) d_MO_fillNamed_197 rfl (fun _ => ?_) (fun z => absurd z (wd_lg h9 hl (by decide) (wd_ne hl hno (i := 6) (by decide))))
  refine w_lload_n d_MO_fillNamed_207 rfl ?_
  refine w_ldc2 (v := lN 27889595115) d_MO_fillNamed_208 k_MO_141 ?_
  refine w_lcmp d_MO_fillNamed_211 ?_
  refine w_if_ne (tgt := 230) d_MO_fillNamed_212 rfl (fun _ => ?_) (fun z => absurd z (wd_lg h9 hl (by decide) (wd_ne hl hno (i := 7) (by decide))))
  refine w_lload_n d_MO_fillNamed_230 rfl ?_
  refine w_ldc2 (v := lN 31106560485) d_MO_fillNamed_231 k_MO_143 ?_
  refine w_lcmp d_MO_fillNamed_234 ?_
  refine w_if_ne (tgt := 285) d_MO_fillNamed_235 rfl (fun _ => ?_) (fun z => absurd z (wd_lg h9 hl (by decide) (wd_ne hl hno (i := 8) (by decide))))
  refine w_lload_n d_MO_fillNamed_285 rfl ?_
  refine w_ldc2 (v := lN 8352993783238392421) d_MO_fillNamed_286 k_MO_145 ?_
  refine w_lcmp d_MO_fillNamed_289 ?_
  refine w_if_ne (tgt := 306) d_MO_fillNamed_290 rfl (fun _ => ?_) (fun z => absurd z (wd_lg h9 hl (by decide) (wd_ne hl hno (i := 9) (by decide))))
  refine w_aload_n d_MO_fillNamed_306 rfl rfl ?_
  refine w_iconst (v := nI 0) d_MO_fillNamed_307 (by decide) ?_
  refine w_put d_MO_fillNamed_308 f_MO_93 rfl hx rfl rfl rfl ?_
  refine w_nm (fun h1 e1 => ?_)
  have hx_1 := wS_eq e1 hx
  rw [← hEN]
  refine w_vret d_MO_fillNamed_311 rfl ?_
  refine ⟨rfl, fun j h1 _ => by rw [wS_off e1 (by omega)], by rw [decide_eq_false (fun z => z hno)]; exact hx_1, EE, SS, hE.keep (fun j hj => by rw [wS_off e1 (by omega)]), fun _ _ => ⟨rfl, rfl⟩, fun z => absurd hno z⟩
set_option maxHeartbeats 4000000 in
set_option maxRecDepth 100000 in
theorem m_MO_fill {h : wH} {sz ap dp wr fi : Int32} (hx : h[57]? = some (.inr (7, [.ref 58, .int (sz), .ref 59, .ref 60, .ref 61, .ref 62, .int (ap), .int (nI 1), .int (dp), .ref 63, .ref 64, .ref 65, .ref 66, .int (wr), .int (fi), .ref 67]))) {EE SS : Nat → List Nat} (hE : mE h EE SS) (he : EE 8 = []) (hse : SS 8 = []) {l : List Nat} (h9 : l.length ≤ 9) (hl : ∀ x ∈ l, 1 ≤ x ∧ x < 128) : PM X M_MO_fillNamed 5 0 0 [.ref 57, .long (lN (wdN l))] h (fun z h' => z = none ∧ (∀ j, j ≠ 57 → (j < 59 ∨ 63 ≤ j) → h'[j]? = h[j]?) ∧ h'[57]? = some (.inr (7, [.ref 58, .int (sz), .ref 59, .ref 60, .ref 61, .ref 62, .int (ap), .int (bI (decide (¬ nmN l = -1))), .int (dp), .ref 63, .ref 64, .ref 65, .ref 66, .int (wr), .int (fi), .ref 67])) ∧ ∃ EE' SS' : Nat → List Nat, mE h' EE' SS' ∧ (∀ j, j < 8 ∨ j = 11 → EE' j = EE j ∧ SS' j = SS j) ∧ (¬ nmN l = -1 → EE' 8 = rTab (nmN l) ∧ SS' 8 = [])) := by
  by_cases hno : nmN l = -1
  · exact m_MO_fill_no hx hE h9 hl hno
  obtain ⟨i, h1, h2, h3⟩ := nmN_some hno
  clear hno h2 h9 hl
  subst h3
  rcases i with _ | _ | _ | _ | _ | _ | _ | _ | _ | _ | i
  · exact m_MO_fill_0 hx hE he hse
  · exact m_MO_fill_1 hx hE he hse
  · exact m_MO_fill_2 hx hE he hse
  · exact m_MO_fill_3 hx hE he hse
  · exact m_MO_fill_4 hx hE he hse
  · exact m_MO_fill_5 hx hE he hse
  · exact m_MO_fill_6 hx hE he hse
  · exact m_MO_fill_7 hx hE he hse
  · exact m_MO_fill_8 hx hE he hse
  · exact m_MO_fill_9 hx hE he hse
  · omega
end MO11
