/-! CodePointSets, first part: written by wip/gen/cp1.py -/
/-- the n code points from k on are a member -/
def tM (E S t : List Nat) (k n : Nat) : Bool := match n with
  | 1 => (match t[k]? with | some a => eMem E a | none => false)
  | 2 => (match t[k]?, t[k + 1]? with | some a, some b => decide (kOf a b 0 ∈ S) | _, _ => false)
  | 3 => (match t[k]?, t[k + 1]?, t[k + 2]? with | some a, some b, some c => decide (kOf a b (c + 1) ∈ S) | _, _, _ => false)
  | _ => false
theorem tM_bad {E S t : List Nat} {k n : Nat} (h : ¬ (1 ≤ n ∧ n ≤ 3 ∧ k + n ≤ t.length)) : tM E S t k n = false := by
  match n, h with
  | 0, _ => rfl
  | 1, h => unfold tM; rw [List.getElem?_eq_none (by omega)]; rfl
  | 2, h =>
    unfold tM
    rw [show t[k + 1]? = none from List.getElem?_eq_none (by omega)]
    cases t[k]? <;> rfl
  | 3, h =>
    unfold tM
    rw [show t[k + 2]? = none from List.getElem?_eq_none (by omega)]
    cases t[k]? <;> cases t[k + 1]? <;> rfl
  | n + 4, _ => rfl
/-- the places that are reached, and the greatest of them -/
def sE (E S t : List Nat) : Nat → Nat → (Nat → Bool) → Nat → Nat
  | 0, _, _, g => g
  | n + 1, s, R, g => if R s = true then sE E S t n (s + 1) (fun j => R j || (tM E S t s 1 && decide (j = s + 1)) || (tM E S t s 2 && decide (j = s + 2)) || (tM E S t s 3 && decide (j = s + 3))) s else sE E S t n (s + 1) R g
/-- the first place at which a member begins -/
def sB0 (E S t : List Nat) : Nat → Nat → Nat
  | 0, _ => t.length
  | n + 1, s => if (tM E S t s 1 || tM E S t s 2 || tM E S t s 3) = true then s else sB0 E S t n (s + 1)
theorem sk_mem {S : List Nat} (h : ∀ y ∈ S, sOk y) : ∀ y ∈ S, y < 2 ^ 63 := fun y hy => by have := sOk_lt (h y hy); omega
theorem t_at {t : List Nat} {k : Nat} (h : k < t.length) : ∃ a, t[k]? = some a := ⟨_, List.getElem?_eq_getElem h⟩
theorem cA_at {t : List Nat} {k a : Nat} (h : t[k]? = some a) : cA t k = nI a := by unfold cA; rw [h]
theorem keep_q {h h' : wH} {t : List Nat} {G : gG} {sp r : Nat} {Es Ss : List Nat} {pr : Nat → Nat} {f : Nat → Option Nat} (a : hCQ h t G sp Es Ss pr) (hr : r < 3) (b : h'[0]? = some (.inr (6, [.ref 1, .ref 3, .ref 13, .ref 48, .ref 51, .ref (pr r)]))) (c : h'[3]? = some (.inl (3, 3, .inr (.inr (.inr (.inr f)))))) (hf : ∀ j, j < 3 → f j = some (if j = r then sp else pr j)) (ho : ∀ k, k ≠ 0 → k ≠ 3 → h'[k]? = h[k]?) : hCQ h' t (gUp G r (Es, Ss)) (pr r) (G r).1 (G r).2 (fun j => if j = r then sp else pr j) := by
  obtain ⟨a1, a2, ⟨f0, a3, a3'⟩, a4, a5, ⟨E, S, a6⟩, ⟨o, a7⟩, a8, a9, a10, a11, a12⟩ := a
  have o3 : wOff h h' 0 4 := fun k hk => ho k (by omega) (by omega)
  have hms : ∀ {x : Nat} {E S : List Nat}, 4 ≤ x → hMS h x E S → hMS h' x E S := fun hx q => q.off o3 (by omega)
  have hcr : hCR h' 1 t := by
    obtain ⟨f1, b1, b2, b3⟩ := a2
    exact ⟨f1, (ho _ (by omega) (by omega)).trans b1, (ho _ (by omega) (by omega)).trans b2, b3⟩
  refine ⟨b, hcr, ⟨f, c, hf⟩, fun j hj => ?_, hms (P2_in (a9 r hr)).1 (a4 r hr), ⟨E, S, hms (by omega) a6⟩, ⟨o, a7.off o3 (by omega)⟩, a8.off o3 (by omega), fun j hj => ?_, a9 r hr, fun j hj => ?_, fun i j hi hj hij => ?_⟩
  · by_cases hjr : j = r
    · subst hjr
      rw [gUp_at]
      dsimp only
      rw [if_pos rfl]
      exact hms (P2_in a10).1 a5
    · rw [gUp_ne _ _ hjr]
      dsimp only
      rw [if_neg hjr]
      exact hms (P2_in (a9 j hj)).1 (a4 j hj)
  · dsimp only
    split
    · exact a10
    · exact a9 j hj
  · dsimp only
    split
    · exact Ne.symm (a11 r hr)
    · exact a12 j r hj hr (by assumption)
  · dsimp only
    split
    · split
      · omega
      · exact Ne.symm (a11 j hj)
    · split
      · exact a11 i hi
      · exact a12 i j hi hj hij
section CP1
variable {X : wX}
set_option maxHeartbeats 4000000 in
set_option maxRecDepth 100000 in
theorem m_CP_regG {h : wH} {t : List Nat} {G : gG} {sp : Nat} {Es Ss : List Nat} {pr : Nat → Nat} (hq : hCQ h t G sp Es Ss pr) {r : Nat} (hr : r < 3) : PM X M_CP_registerAt 0 0 0 [.ref 0, .int (nI r)] h (fun z h' => z = some (.ref (pr r)) ∧ h' = h) := by
  have hq0 := hq; obtain ⟨hp, htx, ⟨f, har, hfr⟩, hrg, hss, ⟨A0, A1, hal⟩, ⟨o0, hwr⟩, hrd, p1, p2, p3, p4⟩ := hq
  refine PM.at (pl := [some (.ref 0), some (.int (nI r))]) rfl rfl (by simp [wle, wen]) ?_
  generalize hEN : wEm X 0 0 _ = EN
  refine w_iload_n d_CP_registerAt_0 rfl ?_
  refine w_if_lt (tgt := 18) d_CP_registerAt_1 rfl (fun z => absurd z (nI_pos (by omega))) (fun _ => ?_)
  refine w_iload_n d_CP_registerAt_4 rfl ?_
  refine w_iconst (v := nI 3) d_CP_registerAt_5 (by decide) ?_
  refine w_icmp_ge (tgt := 18) d_CP_registerAt_6 rfl (fun z => absurd z (nI_ge hr (by decide))) (fun _ => ?_)
  refine w_aload_n d_CP_registerAt_9 rfl rfl ?_
  refine w_get d_CP_registerAt_10 f_CP_18 hp rfl ?_
  refine w_iload_n d_CP_registerAt_13 rfl ?_
  refine w_aald d_CP_registerAt_14 har rfl (vp_in_nI hr (by decide)) ?_
  rw [nI_clamp (by omega), hfr r hr]
  refine w_eq (st' := [.ref (pr r)]) rfl ?_
  refine w_goto (tgt := 19) d_CP_registerAt_15 rfl ?_
  rw [← hEN]
  refine w_aret d_CP_registerAt_19 rfl (Or.inl ⟨_, rfl⟩) rfl ?_
  exact ⟨rfl, rfl⟩
set_option maxHeartbeats 4000000 in
set_option maxRecDepth 100000 in
theorem m_CP_regB {h : wH} {t : List Nat} {G : gG} {sp : Nat} {Es Ss : List Nat} {pr : Nat → Nat} (hq : hCQ h t G sp Es Ss pr) {x : Int32} (hx : ¬ (0 ≤ x ∧ x < nI 3)) : PM X M_CP_registerAt 0 0 0 [.ref 0, .int (x)] h (fun z h' => z = some .null ∧ h' = h) := by
  have hq0 := hq; obtain ⟨hp, htx, ⟨f, har, hfr⟩, hrg, hss, ⟨A0, A1, hal⟩, ⟨o0, hwr⟩, hrd, p1, p2, p3, p4⟩ := hq
  refine PM.at (pl := [some (.ref 0), some (.int (x))]) rfl rfl (by simp [wle, wen]) ?_
  generalize hEN : wEm X 0 0 _ = EN
  refine w_iload_n d_CP_registerAt_0 rfl ?_
  refine w_if_lt (tgt := 18) d_CP_registerAt_1 rfl (fun c1 => ?_) (fun c1 => ?_)
  · refine w_null d_CP_registerAt_18 ?_
    rw [← hEN]
    refine w_aret d_CP_registerAt_19 rfl (Or.inl ⟨_, rfl⟩) rfl ?_
    exact ⟨rfl, rfl⟩
  · refine w_iload_n d_CP_registerAt_4 rfl ?_
    refine w_iconst (v := nI 3) d_CP_registerAt_5 (by decide) ?_
    refine w_icmp_ge (tgt := 18) d_CP_registerAt_6 rfl (fun c6 => ?_) (fun c6 => ?_)
    · refine w_null d_CP_registerAt_18 ?_
      rw [← hEN]
      refine w_aret d_CP_registerAt_19 rfl (Or.inl ⟨_, rfl⟩) rfl ?_
      exact ⟨rfl, rfl⟩
    · exact absurd ⟨Int32.not_lt.mp c1, Int32.not_le.mp c6⟩ hx
set_option maxHeartbeats 4000000 in
set_option maxRecDepth 100000 in
theorem m_CP_keep {h : wH} {t : List Nat} {G : gG} {sp : Nat} {Es Ss : List Nat} {pr : Nat → Nat} (hq : hCQ h t G sp Es Ss pr) {r : Nat} (hr : r < 3) : PM X M_CP_keepSpare 0 0 0 [.ref 0, .int (nI r)] h (fun z h' => z = some (.int (bI (decide (Es.length ≤ 200 ∧ Ss.length ≤ 8)))) ∧ hCP h' t (if Es.length ≤ 200 ∧ Ss.length ≤ 8 then gUp G r (Es, Ss) else G) ∧ wOff h h' 0 57) := by
  have hq0 := hq; obtain ⟨hp, htx, ⟨f, har, hfr⟩, hrg, hss, ⟨A0, A1, hal⟩, ⟨o0, hwr⟩, hrd, p1, p2, p3, p4⟩ := hq
  obtain ⟨gf, gk, gp, ga, gb, gl1, gl2, ghf, ghk⟩ := id hss
  have q2 := P2_in p2
  have q1 := P2_in (p1 r hr)
  refine PM.at (pl := [some (.ref 0), some (.int (nI r)), none]) rfl rfl (by simp [wle, wen]) ?_

  generalize hEN : wEm X 0 0 _ = EN
  refine w_aload_n d_CP_keepSpare_0 rfl rfl ?_
  refine w_get d_CP_keepSpare_1 f_CP_41 hp rfl ?_
  refine w_get d_CP_keepSpare_4 f_CP_127 gp rfl ?_
  refine w_sipush (v := nI 200) d_CP_keepSpare_7 (by decide) ?_
  refine w_icmp_gt (tgt := 25) d_CP_keepSpare_10 rfl (fun c10 => ?_) (fun c10 => ?_)
  · have c10 : 200 < Es.length := (nI_ltI (a := 200) (b := Es.length) (by decide) (by omega)).mp c10
    have hno : ¬ (Es.length ≤ 200 ∧ Ss.length ≤ 8) := by omega
    refine w_iconst (v := nI 0) d_CP_keepSpare_25 (by decide) ?_
    rw [← hEN]
    refine w_zret d_CP_keepSpare_26 rfl (by first | exact Or.inl rfl | exact Or.inr rfl) ?_
    rw [decide_eq_false hno, if_neg hno]
    exact ⟨rfl, ⟨_, _, _, _, hq0⟩, wOff.rf⟩
  · have c10 : Es.length ≤ 200 := Nat.not_lt.mp (fun z => c10 ((nI_ltI (a := 200) (b := Es.length) (by decide) (by omega)).mpr z))
    refine w_aload_n d_CP_keepSpare_13 rfl rfl ?_
    refine w_get d_CP_keepSpare_14 f_CP_41 hp rfl ?_
    refine w_get d_CP_keepSpare_17 f_CP_104 gp rfl ?_
    refine w_bipush (v := nI 8) d_CP_keepSpare_20 (by decide) ?_
    refine w_icmp_le (tgt := 27) d_CP_keepSpare_22 rfl (fun c22 => ?_) (fun c22 => ?_)
    · have c22 : Ss.length ≤ 8 := (nI_leI (a := Ss.length) (b := 8) (by omega) (by decide)).mp c22
      have hyes : Es.length ≤ 200 ∧ Ss.length ≤ 8 := ⟨c10, c22⟩
      refine w_aload_n d_CP_keepSpare_27 rfl rfl ?_
      refine w_get d_CP_keepSpare_28 f_CP_18 hp rfl ?_
      refine w_iload_n d_CP_keepSpare_31 rfl ?_
      refine w_aald d_CP_keepSpare_32 har rfl (vp_in_nI hr (by decide)) ?_
      rw [nI_clamp (by omega), hfr r hr]
      refine w_eq (st' := [.ref (pr r)]) rfl ?_
      refine w_astore_n d_CP_keepSpare_33 (by decide) rfl ?_
      refine w_pl (pl' := [some (.ref 0), some (.int (nI r)), some (.ref (pr r))]) rfl ?_
      refine w_aload_n d_CP_keepSpare_34 rfl rfl ?_
      refine w_get d_CP_keepSpare_35 f_CP_18 hp rfl ?_
      refine w_iload_n d_CP_keepSpare_38 rfl ?_
      refine w_aload_n d_CP_keepSpare_39 rfl rfl ?_
      refine w_get d_CP_keepSpare_40 f_CP_41 hp rfl ?_
      refine w_aast d_CP_keepSpare_43 har rfl gp rfl (vp_in_nI hr (by decide)) ?_
      refine w_nm (fun h1 e1 => ?_)
      have hp_1 := wS_ne e1 (by omega) hp
      have har_1 := wS_eq e1 har
      have gp_1 := wS_ne e1 (by omega) gp
      have ga_1 := wS_ne e1 (by omega) ga
      have gb_1 := wS_ne e1 (by omega) gb
      refine w_aload_n d_CP_keepSpare_44 rfl rfl ?_
      refine w_aload_n d_CP_keepSpare_45 rfl rfl ?_
      refine w_put d_CP_keepSpare_46 f_CP_41 rfl hp_1 rfl rfl rfl ?_
      refine w_nm (fun h2 e2 => ?_)
      have hp_2 := wS_eq e2 hp_1
      have har_2 := wS_ne e2 (by omega) har_1
      have gp_2 := wS_ne e2 (by omega) gp_1
      have ga_2 := wS_ne e2 (by omega) ga_1
      have gb_2 := wS_ne e2 (by omega) gb_1
      refine w_iconst (v := nI 1) d_CP_keepSpare_49 (by decide) ?_
      rw [← hEN]
      refine w_zret d_CP_keepSpare_50 rfl (by first | exact Or.inl rfl | exact Or.inr rfl) ?_
      rw [decide_eq_true hyes, if_pos hyes]
      refine ⟨rfl, ⟨pr r, (G r).1, (G r).2, fun j => if j = r then sp else pr j, ?_⟩, fun k hk => by rw [wS_off e2 (by omega), wS_off e1 (by omega)]⟩
      have ho : ∀ k, k ≠ 0 → k ≠ 3 → h2[k]? = h[k]? := fun k h0 h3 => by rw [wS_off e2 h0, wS_off e1 h3]
      exact keep_q hq0 hr hp_2 har_2 (by rw [nI_clamp (by omega)]; exact fun j hj => by by_cases hj2 : j = r; (· subst hj2; rw [va_up_self, if_pos rfl]); (· rw [va_up_ne _ _ hj2, if_neg hj2]; exact hfr j hj)) ho
    · have c22 : ¬ Ss.length ≤ 8 := fun z => c22 ((nI_leI (a := Ss.length) (b := 8) (by omega) (by decide)).mpr z)
      have hno : ¬ (Es.length ≤ 200 ∧ Ss.length ≤ 8) := by omega
      refine w_iconst (v := nI 0) d_CP_keepSpare_25 (by decide) ?_
      rw [← hEN]
      refine w_zret d_CP_keepSpare_26 rfl (by first | exact Or.inl rfl | exact Or.inr rfl) ?_
      rw [decide_eq_false hno, if_neg hno]
      exact ⟨rfl, ⟨_, _, _, _, hq0⟩, wOff.rf⟩
set_option maxHeartbeats 4000000 in
set_option maxRecDepth 100000 in
theorem m_CP_tM_bad {h : wH} {t : List Nat} {G : gG} {sp : Nat} {Es Ss : List Nat} {pr : Nat → Nat} (hq : hCQ h t G sp Es Ss pr) {q k n : Nat} (hk : k ≤ 60) (hn : n ≤ 60) (E S : List Nat) (hb : ¬ (1 ≤ n ∧ n ≤ 3 ∧ k + n ≤ t.length)) : PM X M_CP_textIsMember 1 0 0 [.ref 0, .ref q, .int (nI k), .int (nI n)] h (fun z h' => z = some (.int (bI (tM E S t k n))) ∧ h' = h) := by
  have hq0 := hq; obtain ⟨hp, htx, ⟨f, har, hfr⟩, hrg, hss, ⟨A0, A1, hal⟩, ⟨o0, hwr⟩, hrd, p1, p2, p3, p4⟩ := hq
  obtain ⟨tf, tp, ta, t60, thf⟩ := id htx
  refine PM.at (pl := [some (.ref 0), some (.ref q), some (.int (nI k)), some (.int (nI n)), none, none]) rfl rfl (by simp [wle, wen]) ?_
  generalize hEN : wEm X 0 0 _ = EN
  refine w_iload_n d_CP_textIsMember_0 rfl ?_
  refine w_iconst (v := nI 1) d_CP_textIsMember_1 (by decide) ?_
  refine w_icmp_lt (tgt := 23) d_CP_textIsMember_2 rfl (fun c2 => ?_) (fun c2 => ?_)
  · refine w_iconst (v := nI 0) d_CP_textIsMember_23 (by decide) ?_
    rw [← hEN]
    refine w_zret d_CP_textIsMember_24 rfl (by first | exact Or.inl rfl | exact Or.inr rfl) ?_
    rw [tM_bad hb]
    exact ⟨rfl, rfl⟩
  · have c2 : ¬ n < 1 := fun z => c2 ((nI_ltI (a := n) (b := 1) (by omega) (by decide)).mpr z)
    refine w_iload_n d_CP_textIsMember_5 rfl ?_
    refine w_iconst (v := nI 3) d_CP_textIsMember_6 (by decide) ?_
    refine w_icmp_gt (tgt := 23) d_CP_textIsMember_7 rfl (fun c7 => ?_) (fun c7 => ?_)
    · refine w_iconst (v := nI 0) d_CP_textIsMember_23 (by decide) ?_
      rw [← hEN]
      refine w_zret d_CP_textIsMember_24 rfl (by first | exact Or.inl rfl | exact Or.inr rfl) ?_
      rw [tM_bad hb]
      exact ⟨rfl, rfl⟩
    · have c7 : ¬ 3 < n := fun z => c7 ((nI_ltI (a := 3) (b := n) (by decide) (by omega)).mpr z)
      refine w_iload_n d_CP_textIsMember_10 rfl ?_
      refine w_iload_n d_CP_textIsMember_11 rfl ?_
      refine w_iadd d_CP_textIsMember_12 ?_
      refine w_topi (y := nI (k + n)) (nI_add _ _) ?_
      refine w_aload_n d_CP_textIsMember_13 rfl rfl ?_
      refine w_get d_CP_textIsMember_14 f_CP_10 hp rfl ?_
      refine w_get d_CP_textIsMember_17 f_CP_54 tp rfl ?_
      refine w_icmp_le (tgt := 25) d_CP_textIsMember_20 rfl (fun c20 => ?_) (fun c20 => ?_)
      · have c20 := (nI_leI (a := k + n) (b := t.length) (by omega) (by omega)).mp c20
        exact absurd ⟨by omega, by omega, c20⟩ hb
      · refine w_iconst (v := nI 0) d_CP_textIsMember_23 (by decide) ?_
        rw [← hEN]
        refine w_zret d_CP_textIsMember_24 rfl (by first | exact Or.inl rfl | exact Or.inr rfl) ?_
        rw [tM_bad hb]
        exact ⟨rfl, rfl⟩
set_option maxHeartbeats 4000000 in
set_option maxRecDepth 100000 in
theorem m_CP_tM_1 {h : wH} {t : List Nat} {G : gG} {sp : Nat} {Es Ss : List Nat} {pr : Nat → Nat} (hq : hCQ h t G sp Es Ss pr) {q k : Nat} {E S : List Nat} (hm : hMS h q E S) (hA : eAsc E) (hE : ∀ y ∈ E, y < 2 ^ 31) (hS : ∀ y ∈ S, sOk y) (ht : ∀ x ∈ t, x < 1114112) {a : Nat} (ha : t[k]? = some a) : PM X M_CP_textIsMember 1 0 0 [.ref 0, .ref q, .int (nI k), .int (nI 1)] h (fun z h' => z = some (.int (bI (eMem E a))) ∧ h' = h) := by
  have hq0 := hq; obtain ⟨hp, htx, ⟨f, har, hfr⟩, hrg, hss, ⟨A0, A1, hal⟩, ⟨o0, hwr⟩, hrd, p1, p2, p3, p4⟩ := hq
  obtain ⟨tf, tp, ta, t60, thf⟩ := id htx
  obtain ⟨gf, gk, gp, ga, gb, gl1, gl2, ghf, ghk⟩ := id hm
  have al := ht a (List.mem_of_getElem? ha)
  have hlen : k + 1 ≤ t.length := by have := (List.getElem?_eq_some_iff.mp ha).1; omega
  refine PM.at (pl := [some (.ref 0), some (.ref q), some (.int (nI k)), some (.int (nI 1)), none, none]) rfl rfl (by simp [wle, wen]) ?_
  generalize hEN : wEm X 0 0 _ = EN
  refine w_iload_n d_CP_textIsMember_0 rfl ?_
  refine w_iconst (v := nI 1) d_CP_textIsMember_1 (by decide) ?_
  refine w_icmp_lt (tgt := 23) d_CP_textIsMember_2 rfl (fun z => absurd z (by decide)) (fun _ => ?_)
  refine w_iload_n d_CP_textIsMember_5 rfl ?_
  refine w_iconst (v := nI 3) d_CP_textIsMember_6 (by decide) ?_
  refine w_icmp_gt (tgt := 23) d_CP_textIsMember_7 rfl (fun z => absurd z (by decide)) (fun _ => ?_)
  refine w_iload_n d_CP_textIsMember_10 rfl ?_
  refine w_iload_n d_CP_textIsMember_11 rfl ?_
  refine w_iadd d_CP_textIsMember_12 ?_
  refine w_topi (y := nI (k + 1)) (nI_add _ _) ?_
  refine w_aload_n d_CP_textIsMember_13 rfl rfl ?_
  refine w_get d_CP_textIsMember_14 f_CP_10 hp rfl ?_
  refine w_get d_CP_textIsMember_17 f_CP_54 tp rfl ?_
  refine w_icmp_le (tgt := 25) d_CP_textIsMember_20 rfl (fun _ => ?_) (fun z => absurd ((nI_leI (by omega) (by omega)).mpr hlen) z)
  refine w_aload_n d_CP_textIsMember_25 rfl rfl ?_
  refine w_get d_CP_textIsMember_26 f_CP_10 hp rfl ?_
  refine w_iload_n d_CP_textIsMember_29 rfl ?_
  refine w_callV (as := [.int (nI k)]) (st := []) d_CP_textIsMember_30 yM_CR_codeAt l_CP_58 vM_CR_codeAt tp rfl rfl rfl rfl (m_CR_codeN htx (i := k) (by omega)) (by decide) (by decide) (by decide) (by decide) (Nat.le_of_ble_eq_true rfl) ?_
  rintro _ h9_1 ⟨rfl, e9_1⟩
  rw [e9_1]
  refine w_eq (st' := [.int (cA t (k))]) rfl ?_
  refine w_topi (y := nI a) (cA_at ha) ?_
  refine w_istore d_CP_textIsMember_33 (by decide) ?_
  refine w_pl (pl' := [some (.ref 0), some (.ref q), some (.int (nI k)), some (.int (nI 1)), some (.int (nI a)), none]) rfl ?_
  refine w_iload_n d_CP_textIsMember_35 rfl ?_
  refine w_iconst (v := nI 1) d_CP_textIsMember_36 (by decide) ?_
  refine w_icmp_ne (tgt := 47) d_CP_textIsMember_37 rfl (fun z => absurd (by decide) z) (fun _ => ?_)
  refine w_aload_n d_CP_textIsMember_40 rfl rfl ?_
  refine w_iload d_CP_textIsMember_41 rfl ?_
  refine w_callV (as := [.int (nI a)]) (st := []) d_CP_textIsMember_43 yM_MS_holdsCode l_CP_120 vM_MS_holdsCode gp rfl rfl rfl rfl (m_MS_holdsCode hm hA hE (by omega)) (by decide) (by decide) (by decide) (by decide) (Nat.le_of_ble_eq_true rfl) ?_
  rintro _ h9_2 ⟨rfl, e9_2⟩
  rw [e9_2]
  refine w_eq (st' := [.int (bI (eMem E a))]) rfl ?_
  rw [← hEN]
  refine w_zret d_CP_textIsMember_46 rfl (bI_01 _) ?_
  exact ⟨rfl, rfl⟩
set_option maxHeartbeats 4000000 in
set_option maxRecDepth 100000 in
theorem m_CP_tM_2 {h : wH} {t : List Nat} {G : gG} {sp : Nat} {Es Ss : List Nat} {pr : Nat → Nat} (hq : hCQ h t G sp Es Ss pr) {q k : Nat} {E S : List Nat} (hm : hMS h q E S) (hA : eAsc E) (hE : ∀ y ∈ E, y < 2 ^ 31) (hS : ∀ y ∈ S, sOk y) (ht : ∀ x ∈ t, x < 1114112) {a : Nat} (ha : t[k]? = some a) {b : Nat} (hb : t[k + 1]? = some b) : PM X M_CP_textIsMember 1 0 0 [.ref 0, .ref q, .int (nI k), .int (nI 2)] h (fun z h' => z = some (.int (bI (decide (kOf a b 0 ∈ S)))) ∧ h' = h) := by
  have hq0 := hq; obtain ⟨hp, htx, ⟨f, har, hfr⟩, hrg, hss, ⟨A0, A1, hal⟩, ⟨o0, hwr⟩, hrd, p1, p2, p3, p4⟩ := hq
  obtain ⟨tf, tp, ta, t60, thf⟩ := id htx
  obtain ⟨gf, gk, gp, ga, gb, gl1, gl2, ghf, ghk⟩ := id hm
  have al := ht a (List.mem_of_getElem? ha)
  have bl := ht b (List.mem_of_getElem? hb)
  have hlen : k + 2 ≤ t.length := by have := (List.getElem?_eq_some_iff.mp hb).1; omega
  refine PM.at (pl := [some (.ref 0), some (.ref q), some (.int (nI k)), some (.int (nI 2)), none, none]) rfl rfl (by simp [wle, wen]) ?_
  generalize hEN : wEm X 0 0 _ = EN
  refine w_iload_n d_CP_textIsMember_0 rfl ?_
  refine w_iconst (v := nI 1) d_CP_textIsMember_1 (by decide) ?_
  refine w_icmp_lt (tgt := 23) d_CP_textIsMember_2 rfl (fun z => absurd z (by decide)) (fun _ => ?_)
  refine w_iload_n d_CP_textIsMember_5 rfl ?_
  refine w_iconst (v := nI 3) d_CP_textIsMember_6 (by decide) ?_
  refine w_icmp_gt (tgt := 23) d_CP_textIsMember_7 rfl (fun z => absurd z (by decide)) (fun _ => ?_)
  refine w_iload_n d_CP_textIsMember_10 rfl ?_
  refine w_iload_n d_CP_textIsMember_11 rfl ?_
  refine w_iadd d_CP_textIsMember_12 ?_
  refine w_topi (y := nI (k + 2)) (nI_add _ _) ?_
  refine w_aload_n d_CP_textIsMember_13 rfl rfl ?_
  refine w_get d_CP_textIsMember_14 f_CP_10 hp rfl ?_
  refine w_get d_CP_textIsMember_17 f_CP_54 tp rfl ?_
  refine w_icmp_le (tgt := 25) d_CP_textIsMember_20 rfl (fun _ => ?_) (fun z => absurd ((nI_leI (by omega) (by omega)).mpr hlen) z)
  refine w_aload_n d_CP_textIsMember_25 rfl rfl ?_
  refine w_get d_CP_textIsMember_26 f_CP_10 hp rfl ?_
  refine w_iload_n d_CP_textIsMember_29 rfl ?_
  refine w_callV (as := [.int (nI k)]) (st := []) d_CP_textIsMember_30 yM_CR_codeAt l_CP_58 vM_CR_codeAt tp rfl rfl rfl rfl (m_CR_codeN htx (i := k) (by omega)) (by decide) (by decide) (by decide) (by decide) (Nat.le_of_ble_eq_true rfl) ?_
  rintro _ h9_1 ⟨rfl, e9_1⟩
  rw [e9_1]
  refine w_eq (st' := [.int (cA t (k))]) rfl ?_
  refine w_topi (y := nI a) (cA_at ha) ?_
  refine w_istore d_CP_textIsMember_33 (by decide) ?_
  refine w_pl (pl' := [some (.ref 0), some (.ref q), some (.int (nI k)), some (.int (nI 2)), some (.int (nI a)), none]) rfl ?_
  refine w_iload_n d_CP_textIsMember_35 rfl ?_
  refine w_iconst (v := nI 1) d_CP_textIsMember_36 (by decide) ?_
  refine w_icmp_ne (tgt := 47) d_CP_textIsMember_37 rfl (fun _ => ?_) (fun z => absurd z (by decide))
  refine w_iload_n d_CP_textIsMember_47 rfl ?_
  refine w_iconst (v := nI 3) d_CP_textIsMember_48 (by decide) ?_
  refine w_icmp_ne (tgt := 65) d_CP_textIsMember_49 rfl (fun _ => ?_) (fun z => absurd z (by decide))
  refine w_iconst (v := -1) d_CP_textIsMember_65 (by decide) ?_
  refine w_istore d_CP_textIsMember_66 (by decide) ?_
  refine w_pl (pl' := [some (.ref 0), some (.ref q), some (.int (nI k)), some (.int (nI 2)), some (.int (nI a)), some (.int (-1))]) rfl ?_
  refine w_aload_n d_CP_textIsMember_68 rfl rfl ?_
  refine w_iload d_CP_textIsMember_69 rfl ?_
  refine w_aload_n d_CP_textIsMember_71 rfl rfl ?_
  refine w_get d_CP_textIsMember_72 f_CP_10 hp rfl ?_
  refine w_iload_n d_CP_textIsMember_75 rfl ?_
  refine w_iconst (v := nI 1) d_CP_textIsMember_76 (by decide) ?_
  refine w_iadd d_CP_textIsMember_77 ?_
  refine w_topi (y := nI (k + 1)) (nI_add _ _) ?_
  refine w_callV (as := [.int (nI (k + 1))]) (st := [.int (nI a), .ref q]) d_CP_textIsMember_78 yM_CR_codeAt l_CP_58 vM_CR_codeAt tp rfl rfl rfl rfl (m_CR_codeN htx (i := k + 1) (by omega)) (by decide) (by decide) (by decide) (by decide) (Nat.le_of_ble_eq_true rfl) ?_
  rintro _ h9_2 ⟨rfl, e9_2⟩
  rw [e9_2]
  refine w_eq (st' := [.int (cA t (k + 1)), .int (nI a), .ref q]) rfl ?_
  refine w_topi (y := nI b) (cA_at hb) ?_
  refine w_iload d_CP_textIsMember_81 rfl ?_
  refine w_callS (as := [.int (nI a), .int (nI b), .int (-1)]) (st := [.ref q]) d_CP_textIsMember_83 yM_MS_keyOf l_CP_144 sM_MS_keyOf rfl rfl (m_MS_keyOf al bl (t := 0) (x := -1) (by decide) (by omega)) (by decide) (by decide) (by decide) (by decide) (Nat.le_of_ble_eq_true rfl) ?_
  rintro _ h9_3 ⟨rfl, e9_3⟩
  rw [e9_3]
  refine w_eq (st' := [.long (lN (kOf a b 0)), .ref q]) rfl ?_
  refine w_callV (as := [.long (lN (kOf a b 0))]) (st := []) d_CP_textIsMember_86 yM_MS_holdsString l_CP_148 vM_MS_holdsString gp rfl rfl rfl rfl (m_MS_holdsString hm (sk_mem hS) (by have := kOf_lt al bl (t := 0) (by omega); omega)) (by decide) (by decide) (by decide) (by decide) (Nat.le_of_ble_eq_true rfl) ?_
  rintro _ h9_4 ⟨rfl, e9_4⟩
  rw [e9_4]
  refine w_eq (st' := [.int (bI (decide (kOf a b 0 ∈ S)))]) rfl ?_
  rw [← hEN]
  refine w_zret d_CP_textIsMember_89 rfl (bI_01 _) ?_
  exact ⟨rfl, rfl⟩
set_option maxHeartbeats 4000000 in
set_option maxRecDepth 100000 in
theorem m_CP_tM_3 {h : wH} {t : List Nat} {G : gG} {sp : Nat} {Es Ss : List Nat} {pr : Nat → Nat} (hq : hCQ h t G sp Es Ss pr) {q k : Nat} {E S : List Nat} (hm : hMS h q E S) (hA : eAsc E) (hE : ∀ y ∈ E, y < 2 ^ 31) (hS : ∀ y ∈ S, sOk y) (ht : ∀ x ∈ t, x < 1114112) {a : Nat} (ha : t[k]? = some a) {b : Nat} (hb : t[k + 1]? = some b) {c : Nat} (hc : t[k + 2]? = some c) : PM X M_CP_textIsMember 1 0 0 [.ref 0, .ref q, .int (nI k), .int (nI 3)] h (fun z h' => z = some (.int (bI (decide (kOf a b (c + 1) ∈ S)))) ∧ h' = h) := by
  have hq0 := hq; obtain ⟨hp, htx, ⟨f, har, hfr⟩, hrg, hss, ⟨A0, A1, hal⟩, ⟨o0, hwr⟩, hrd, p1, p2, p3, p4⟩ := hq
  obtain ⟨tf, tp, ta, t60, thf⟩ := id htx
  obtain ⟨gf, gk, gp, ga, gb, gl1, gl2, ghf, ghk⟩ := id hm
  have al := ht a (List.mem_of_getElem? ha)
  have bl := ht b (List.mem_of_getElem? hb)
  have cl := ht c (List.mem_of_getElem? hc)
  have hlen : k + 3 ≤ t.length := by have := (List.getElem?_eq_some_iff.mp hc).1; omega
  refine PM.at (pl := [some (.ref 0), some (.ref q), some (.int (nI k)), some (.int (nI 3)), none, none]) rfl rfl (by simp [wle, wen]) ?_
  generalize hEN : wEm X 0 0 _ = EN
  refine w_iload_n d_CP_textIsMember_0 rfl ?_
  refine w_iconst (v := nI 1) d_CP_textIsMember_1 (by decide) ?_
  refine w_icmp_lt (tgt := 23) d_CP_textIsMember_2 rfl (fun z => absurd z (by decide)) (fun _ => ?_)
  refine w_iload_n d_CP_textIsMember_5 rfl ?_
  refine w_iconst (v := nI 3) d_CP_textIsMember_6 (by decide) ?_
  refine w_icmp_gt (tgt := 23) d_CP_textIsMember_7 rfl (fun z => absurd z (by decide)) (fun _ => ?_)
  refine w_iload_n d_CP_textIsMember_10 rfl ?_
  refine w_iload_n d_CP_textIsMember_11 rfl ?_
  refine w_iadd d_CP_textIsMember_12 ?_
  refine w_topi (y := nI (k + 3)) (nI_add _ _) ?_
  refine w_aload_n d_CP_textIsMember_13 rfl rfl ?_
  refine w_get d_CP_textIsMember_14 f_CP_10 hp rfl ?_
  refine w_get d_CP_textIsMember_17 f_CP_54 tp rfl ?_
  refine w_icmp_le (tgt := 25) d_CP_textIsMember_20 rfl (fun _ => ?_) (fun z => absurd ((nI_leI (by omega) (by omega)).mpr hlen) z)
  refine w_aload_n d_CP_textIsMember_25 rfl rfl ?_
  refine w_get d_CP_textIsMember_26 f_CP_10 hp rfl ?_
  refine w_iload_n d_CP_textIsMember_29 rfl ?_
  refine w_callV (as := [.int (nI k)]) (st := []) d_CP_textIsMember_30 yM_CR_codeAt l_CP_58 vM_CR_codeAt tp rfl rfl rfl rfl (m_CR_codeN htx (i := k) (by omega)) (by decide) (by decide) (by decide) (by decide) (Nat.le_of_ble_eq_true rfl) ?_
  rintro _ h9_1 ⟨rfl, e9_1⟩
  rw [e9_1]
  refine w_eq (st' := [.int (cA t (k))]) rfl ?_
  refine w_topi (y := nI a) (cA_at ha) ?_
  refine w_istore d_CP_textIsMember_33 (by decide) ?_
  refine w_pl (pl' := [some (.ref 0), some (.ref q), some (.int (nI k)), some (.int (nI 3)), some (.int (nI a)), none]) rfl ?_
  refine w_iload_n d_CP_textIsMember_35 rfl ?_
  refine w_iconst (v := nI 1) d_CP_textIsMember_36 (by decide) ?_
  refine w_icmp_ne (tgt := 47) d_CP_textIsMember_37 rfl (fun _ => ?_) (fun z => absurd z (by decide))
  refine w_iload_n d_CP_textIsMember_47 rfl ?_
  refine w_iconst (v := nI 3) d_CP_textIsMember_48 (by decide) ?_
  refine w_icmp_ne (tgt := 65) d_CP_textIsMember_49 rfl (fun z => absurd (by decide) z) (fun _ => ?_)
  refine w_aload_n d_CP_textIsMember_52 rfl rfl ?_
  refine w_get d_CP_textIsMember_53 f_CP_10 hp rfl ?_
  refine w_iload_n d_CP_textIsMember_56 rfl ?_
  refine w_iconst (v := nI 2) d_CP_textIsMember_57 (by decide) ?_
  refine w_iadd d_CP_textIsMember_58 ?_
  refine w_topi (y := nI (k + 2)) (nI_add _ _) ?_
  refine w_callV (as := [.int (nI (k + 2))]) (st := []) d_CP_textIsMember_59 yM_CR_codeAt l_CP_58 vM_CR_codeAt tp rfl rfl rfl rfl (m_CR_codeN htx (i := k + 2) (by omega)) (by decide) (by decide) (by decide) (by decide) (Nat.le_of_ble_eq_true rfl) ?_
  rintro _ h9_2 ⟨rfl, e9_2⟩
  rw [e9_2]
  refine w_eq (st' := [.int (cA t (k + 2))]) rfl ?_
  refine w_topi (y := nI c) (cA_at hc) ?_
  refine w_goto (tgt := 66) d_CP_textIsMember_62 rfl ?_
  refine w_istore d_CP_textIsMember_66 (by decide) ?_
  refine w_pl (pl' := [some (.ref 0), some (.ref q), some (.int (nI k)), some (.int (nI 3)), some (.int (nI a)), some (.int (nI c))]) rfl ?_
  refine w_aload_n d_CP_textIsMember_68 rfl rfl ?_
  refine w_iload d_CP_textIsMember_69 rfl ?_
  refine w_aload_n d_CP_textIsMember_71 rfl rfl ?_
  refine w_get d_CP_textIsMember_72 f_CP_10 hp rfl ?_
  refine w_iload_n d_CP_textIsMember_75 rfl ?_
  refine w_iconst (v := nI 1) d_CP_textIsMember_76 (by decide) ?_
  refine w_iadd d_CP_textIsMember_77 ?_
  refine w_topi (y := nI (k + 1)) (nI_add _ _) ?_
  refine w_callV (as := [.int (nI (k + 1))]) (st := [.int (nI a), .ref q]) d_CP_textIsMember_78 yM_CR_codeAt l_CP_58 vM_CR_codeAt tp rfl rfl rfl rfl (m_CR_codeN htx (i := k + 1) (by omega)) (by decide) (by decide) (by decide) (by decide) (Nat.le_of_ble_eq_true rfl) ?_
  rintro _ h9_3 ⟨rfl, e9_3⟩
  rw [e9_3]
  refine w_eq (st' := [.int (cA t (k + 1)), .int (nI a), .ref q]) rfl ?_
  refine w_topi (y := nI b) (cA_at hb) ?_
  refine w_iload d_CP_textIsMember_81 rfl ?_
  refine w_callS (as := [.int (nI a), .int (nI b), .int (nI c)]) (st := [.ref q]) d_CP_textIsMember_83 yM_MS_keyOf l_CP_144 sM_MS_keyOf rfl rfl (m_MS_keyOf al bl (t := c + 1) (x := nI c) (by rw [nI_l (by omega)]; exact lN_add c 1) (by omega)) (by decide) (by decide) (by decide) (by decide) (Nat.le_of_ble_eq_true rfl) ?_
  rintro _ h9_4 ⟨rfl, e9_4⟩
  rw [e9_4]
  refine w_eq (st' := [.long (lN (kOf a b (c + 1))), .ref q]) rfl ?_
  refine w_callV (as := [.long (lN (kOf a b (c + 1)))]) (st := []) d_CP_textIsMember_86 yM_MS_holdsString l_CP_148 vM_MS_holdsString gp rfl rfl rfl rfl (m_MS_holdsString hm (sk_mem hS) (by have := kOf_lt al bl (t := c + 1) (by omega); omega)) (by decide) (by decide) (by decide) (by decide) (Nat.le_of_ble_eq_true rfl) ?_
  rintro _ h9_5 ⟨rfl, e9_5⟩
  rw [e9_5]
  refine w_eq (st' := [.int (bI (decide (kOf a b (c + 1) ∈ S)))]) rfl ?_
  rw [← hEN]
  refine w_zret d_CP_textIsMember_89 rfl (bI_01 _) ?_
  exact ⟨rfl, rfl⟩
theorem m_CP_tM {h : wH} {t : List Nat} {G : gG} {sp : Nat} {Es Ss : List Nat} {pr : Nat → Nat} (hq : hCQ h t G sp Es Ss pr) {q k : Nat} {E S : List Nat} (hm : hMS h q E S) (hA : eAsc E) (hE : ∀ y ∈ E, y < 2 ^ 31) (hS : ∀ y ∈ S, sOk y) (ht : ∀ x ∈ t, x < 1114112) {n : Nat} (hk : k ≤ 60) (hn : n ≤ 60) : PM X M_CP_textIsMember 1 0 0 [.ref 0, .ref q, .int (nI k), .int (nI n)] h (fun z h' => z = some (.int (bI (tM E S t k n))) ∧ h' = h) := by
  by_cases hb : 1 ≤ n ∧ n ≤ 3 ∧ k + n ≤ t.length
  · obtain ⟨a, ha⟩ := t_at (t := t) (k := k) (by omega)
    rcases (by omega : n = 1 ∨ n = 2 ∨ n = 3) with rfl | rfl | rfl
    · have := m_CP_tM_1 (X := X) hq hm hA hE hS ht ha
      unfold tM
      rw [ha]
      exact this
    · obtain ⟨b, hb1⟩ := t_at (t := t) (k := k + 1) (by omega)
      have := m_CP_tM_2 (X := X) hq hm hA hE hS ht ha hb1
      unfold tM
      rw [ha, hb1]
      exact this
    · obtain ⟨b, hb1⟩ := t_at (t := t) (k := k + 1) (by omega)
      obtain ⟨c, hc1⟩ := t_at (t := t) (k := k + 2) (by omega)
      have := m_CP_tM_3 (X := X) hq hm hA hE hS ht ha hb1 hc1
      unfold tM
      rw [ha, hb1, hc1]
      exact this
  · exact m_CP_tM_bad hq hk hn E S hb
end CP1
