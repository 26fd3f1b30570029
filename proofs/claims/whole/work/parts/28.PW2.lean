/-! PatternWriter.writePattern: written by wip/gen/pw2.py -/
def eT : List Nat → List Nat
  | a :: b :: r => rT a (b - 1) ++ eT r
  | _ => []
theorem eT_short {E : List Nat} (h : E.length ≤ 1) : eT E = [] := by
  match E, h with
  | [], _ => rfl
  | [a], _ => rfl
  | a :: b :: r, h => simp at h
/-- a set as it is printed -/
def pT (E S : List Nat) : List Nat := [91] ++ (eT E ++ (S.flatMap sT ++ [93]))
theorem bI_01 (b : Bool) : bI b = 0 ∨ bI b = 1 := by cases b <;> decide
/-- the writer before it writes -/
def hPV (h : wH) (p : Nat) (o : List Nat) : Prop := (∃ fl : Int32, h[p]? = some (.inr (4, [.ref (p + 1), .int fl]))) ∧ hCR h (p + 1) o
theorem hPW.v {h : wH} {p : Nat} {o : List Nat} (a : hPW h p o) : hPV h p (o.take 60) := ⟨⟨_, a.1⟩, a.2⟩
section PW2
variable {X : wX}
set_option maxHeartbeats 4000000 in
set_option maxRecDepth 100000 in
theorem m_PW_writePattern {h : wH} {p q : Nat} {o0 E S : List Nat} (hw : hPV h p o0) (hq : hMS h q E S) (hd : p + 3 ≤ q ∨ q + 3 ≤ p) (hE : eOk E) (hS : ∀ y ∈ S, sOk y) : PM X M_PW_writePattern 5 0 0 [.ref p, .ref q] h (fun r h' => r = some (.int (bI (decide ((pT E S).length ≤ 60)))) ∧ (∃ o', hPW h' p o' ∧ ((pT E S).length ≤ 60 → o' = pT E S)) ∧ wOff h h' p 3) := by
  have hw0 := hw
  obtain ⟨⟨fl0, hp⟩, hrow⟩ := hw
  have hpr := hrow.choose_spec.1
  have ghm := hq; obtain ⟨gf, gk, gp, ga, gb, gl1, gl2, ghf, ghk⟩ := hq
  refine PM.at (pl := [some (.ref p), some (.ref q), none]) rfl rfl (by simp [wle, wen]) ?_
  generalize hEN : wEm X 0 0 _ = EN
  have END : ∀ (o : List Nat) (h3 : wH) (z : Int32), (hPW h3 p o) → (wOff h h3 p 3) → ((o ++ [93] = pT E S) ∨ (60 < o.length ∧ 60 < (pT E S).length)) → WP X M_PW_writePattern (wR 5 0 0) 0 EN 0 0 96 [some (.ref p), some (.ref q), some (.int (z))] [] h3 := by
    intro o h3 z k3 k4 k5
    have wp := k3.1
    refine w_aload_n d_PW_writePattern_96 rfl rfl ?_
    refine w_bipush (v := nI 93) d_PW_writePattern_97 (by decide) ?_
    refine w_callV (as := [.int (nI 93)]) (st := []) d_PW_writePattern_99 yM_PW_put l_PW_25 vM_PW_put wp rfl rfl rfl rfl (m_PW_put k3) (by decide) (by decide) (by decide) (by decide) (Nat.le_of_ble_eq_true rfl) ?_
    rintro _ h4 ⟨rfl, w4, o4⟩
    refine w_eq (st' := []) rfl ?_
    have vp := w4.1
    refine w_aload_n d_PW_writePattern_102 rfl rfl ?_
    refine w_get d_PW_writePattern_103 f_PW_21 vp rfl ?_
    rw [← hEN]
    refine w_zret d_PW_writePattern_106 rfl (bI_01 _) ?_
    rcases k5 with k5 | k5
    · rw [k5] at w4 ⊢
      exact ⟨rfl, ⟨_, w4, fun _ => rfl⟩, k4.tr o4⟩
    · refine ⟨?_, ⟨_, w4, fun z => by omega⟩, k4.tr o4⟩
      rw [decide_eq_false (by rw [List.length_append]; omega), decide_eq_false (by omega)]
  have LS : ∀ (n : Nat) (j : Nat) (o : List Nat) (h3 : wH), (S.length - j < n) → (j ≤ S.length) → (hPW h3 p o) → (wOff h h3 p 3) → ((o ++ ((S.drop j).flatMap sT ++ [93]) = pT E S) ∨ (60 < o.length ∧ 60 < (pT E S).length)) → WP X M_PW_writePattern (wR 5 0 0) 0 EN 0 0 65 [some (.ref p), some (.ref q), some (.int (nI j))] [] h3 := by
    intro n
    induction n with
    | zero => intro j o h3 k1 k2 k3 k4 k5; omega
    | succ n ih =>
      intro j o h3 k1 k2 k3 k4 k5
      have wp := k3.1
      obtain ⟨qf, qk, qp, qa, qb, ql1, ql2, qhf, qhk⟩ := ghm.off k4 (by omega)
      refine w_iload_n d_PW_writePattern_65 rfl ?_
      refine w_aload_n d_PW_writePattern_66 rfl rfl ?_
      refine w_get d_PW_writePattern_67 f_PW_43 qp rfl ?_
      refine w_icmp_ge (tgt := 96) d_PW_writePattern_70 rfl (fun c70 => ?_) (fun c70 => ?_)
      · have c70 := (nI_leI (a := S.length) (b := j) (by omega) (by omega)).mp c70
        refine END o h3 _ k3 k4 ?_
        rcases k5 with k5 | k5
        · left; rw [List.drop_of_length_le c70] at k5; exact k5
        · exact Or.inr k5
      · have c70 : j < S.length := Nat.not_le.mp (fun z => c70 ((nI_leI (a := S.length) (b := j) (by omega) (by omega)).mpr z))
        obtain ⟨y, hy⟩ : ∃ y, S[j]? = some y := ⟨_, List.getElem?_eq_getElem c70⟩
        obtain ⟨a, b, t, y1, y2, y3, y4⟩ := hS y (List.mem_of_getElem? hy)
        have hdr : S.drop j = y :: S.drop (j + 1) := by rw [List.drop_eq_getElem_cons c70]; congr 1; exact Option.some.inj ((List.getElem?_eq_getElem c70).symm.trans hy)
        refine w_aload_n d_PW_writePattern_73 rfl rfl ?_
        refine w_get d_PW_writePattern_74 f_PW_21 wp rfl ?_
        refine w_if_eq (tgt := 96) d_PW_writePattern_77 rfl (fun c77 => ?_) (fun c77 => ?_)
        · have c77 : 60 < o.length := by
            have q9 := bI_f c77
            exact Nat.not_le.mp (of_decide_eq_false q9)
          refine END o h3 _ k3 k4 (Or.inr ?_)
          rcases k5 with k5 | k5
          · exact ⟨c77, by rw [← k5, List.length_append]; omega⟩
          · exact k5
        · have c77 : o.length ≤ 60 := of_decide_eq_true (bI_t c77)
          refine w_aload_n d_PW_writePattern_80 rfl rfl ?_
          refine w_aload_n d_PW_writePattern_81 rfl rfl ?_
          refine w_get d_PW_writePattern_82 f_PW_46 qp rfl ?_
          refine w_iload_n d_PW_writePattern_85 rfl ?_
          refine w_lald d_PW_writePattern_86 qb (vp_in_nI (by omega) (by omega)) ?_
          refine w_topl (y := lN (kOf a b t)) (by rw [nI_clamp (by omega), ← y4]; exact qhk _ _ hy) ?_
          refine w_callV (as := [.long (lN (kOf a b t))]) (st := []) d_PW_writePattern_87 yM_PW_writeString l_PW_50 vM_PW_writeString wp rfl rfl rfl rfl (m_PW_writeString k3 y1 y2 y3) (by decide) (by decide) (by decide) (by decide) (Nat.le_of_ble_eq_true rfl) ?_
          rintro _ h4 ⟨rfl, w4, o4⟩
          refine w_eq (st' := []) rfl ?_
          refine w_iinc (v := nI (j + 1)) d_PW_writePattern_90 rfl (nI_1 _) (by decide) ?_
          refine w_pl (pl' := [some (.ref p), some (.ref q), some (.int (nI (j + 1)))]) rfl ?_
          refine w_goto (tgt := 65) d_PW_writePattern_93 rfl ?_
          refine ih (j + 1) (o ++ sT (kOf a b t)) h4 (by omega) (by omega) w4 (k4.tr o4) ?_
          rcases k5 with k5 | k5
          · left; rw [← k5, hdr, y4]; simp only [List.flatMap_cons, List.append_assoc]
          · right; exact ⟨by rw [List.length_append]; omega, k5.2⟩
  have LR : ∀ (n : Nat) (i : Nat) (o : List Nat) (h3 : wH), (E.length - i < n) → (i ≤ E.length + 1) → (hPW h3 p o) → (wOff h h3 p 3) → (o ++ (eT (E.drop i) ++ (S.flatMap sT ++ [93])) = pT E S) → WP X M_PW_writePattern (wR 5 0 0) 0 EN 0 0 20 [some (.ref p), some (.ref q), some (.int (nI i))] [] h3 := by
    intro n
    induction n with
    | zero => intro i o h3 k1 k2 k3 k4 k5; omega
    | succ n ih =>
      intro i o h3 k1 k2 k3 k4 k5
      have wp := k3.1
      obtain ⟨qf, qk, qp, qa, qb, ql1, ql2, qhf, qhk⟩ := ghm.off k4 (by omega)
      refine w_iload_n d_PW_writePattern_20 rfl ?_
      refine w_iconst (v := nI 1) d_PW_writePattern_21 (by decide) ?_
      refine w_iadd d_PW_writePattern_22 ?_
      refine w_topi (y := nI (i + 1)) (nI_add _ _) ?_
      refine w_aload_n d_PW_writePattern_23 rfl rfl ?_
      refine w_get d_PW_writePattern_24 f_PW_29 qp rfl ?_
      refine w_icmp_ge (tgt := 63) d_PW_writePattern_27 rfl (fun c27 => ?_) (fun c27 => ?_)
      · have c27 := (nI_leI (a := E.length) (b := i + 1) (by omega) (by omega)).mp c27
        refine w_iconst (v := nI 0) d_PW_writePattern_63 (by decide) ?_
        refine w_istore_n d_PW_writePattern_64 (by decide) ?_
        refine LS (S.length + 1) 0 o h3 (by omega) (Nat.zero_le _) k3 k4 (Or.inl ?_)
        rw [eT_short (by rw [List.length_drop]; omega), List.nil_append] at k5
        rw [List.drop_zero]; exact k5
      · have c27 : i + 1 < E.length := Nat.not_le.mp (fun z => c27 ((nI_leI (a := E.length) (b := i + 1) (by omega) (by omega)).mpr z))
        obtain ⟨a, b, hab, ha1, hb1, hdr⟩ := eDrop2 hE.1 c27
        have hb31 := hE.2 b (List.mem_of_getElem? hb1)
        refine w_aload_n d_PW_writePattern_30 rfl rfl ?_
        refine w_get d_PW_writePattern_31 f_PW_21 wp rfl ?_
        refine w_if_eq (tgt := 63) d_PW_writePattern_34 rfl (fun c34 => ?_) (fun c34 => ?_)
        · have c34 : 60 < o.length := by
            have q9 := bI_f c34
            exact Nat.not_le.mp (of_decide_eq_false q9)
          refine w_iconst (v := nI 0) d_PW_writePattern_63 (by decide) ?_
          refine w_istore_n d_PW_writePattern_64 (by decide) ?_
          refine LS (S.length + 1) 0 o h3 (by omega) (Nat.zero_le _) k3 k4 (Or.inr ⟨c34, ?_⟩)
          rw [← k5, List.length_append]; omega
        · have c34 : o.length ≤ 60 := of_decide_eq_true (bI_t c34)
          refine w_aload_n d_PW_writePattern_37 rfl rfl ?_
          refine w_aload_n d_PW_writePattern_38 rfl rfl ?_
          refine w_get d_PW_writePattern_39 f_PW_35 qp rfl ?_
          refine w_iload_n d_PW_writePattern_42 rfl ?_
          refine w_iald d_PW_writePattern_43 qa (vp_in_nI (by omega) (by omega)) ?_
          refine w_topi (y := nI a) (by rw [nI_clamp (by omega)]; exact qhf _ _ ha1) ?_
          refine w_aload_n d_PW_writePattern_44 rfl rfl ?_
          refine w_get d_PW_writePattern_45 f_PW_35 qp rfl ?_
          refine w_iload_n d_PW_writePattern_48 rfl ?_
          refine w_iconst (v := nI 1) d_PW_writePattern_49 (by decide) ?_
          refine w_iadd d_PW_writePattern_50 ?_
          refine w_topi (y := nI (i + 1)) (nI_add _ _) ?_
          refine w_iald d_PW_writePattern_51 qa (vp_in_nI (by omega) (by omega)) ?_
          refine w_topi (y := nI b) (by rw [nI_clamp (by omega)]; exact qhf _ _ hb1) ?_
          refine w_iconst (v := nI 1) d_PW_writePattern_52 (by decide) ?_
          refine w_isub d_PW_writePattern_53 ?_
          refine w_topi (y := nI (b - 1)) (pk_sub (by omega)) ?_
          refine w_callV (as := [.int (nI a), .int (nI (b - 1))]) (st := []) d_PW_writePattern_54 yM_PW_writeRange l_PW_39 vM_PW_writeRange wp rfl rfl rfl rfl (m_PW_writeRange k3 (by omega) (by omega)) (by decide) (by decide) (by decide) (by decide) (Nat.le_of_ble_eq_true rfl) ?_
          rintro _ h4 ⟨rfl, w4, o4⟩
          refine w_eq (st' := []) rfl ?_
          refine w_iinc (v := nI (i + 2)) d_PW_writePattern_57 rfl (nI_add i 2) (by decide) ?_
          refine w_pl (pl' := [some (.ref p), some (.ref q), some (.int (nI (i + 2)))]) rfl ?_
          refine w_goto (tgt := 20) d_PW_writePattern_60 rfl ?_
          refine ih (i + 2) (o ++ rT a (b - 1)) h4 (by omega) (by omega) w4 (k4.tr o4) ?_
          rw [← k5, hdr]
          simp only [eT, List.append_assoc]
  refine w_aload_n d_PW_writePattern_0 rfl rfl ?_
  refine w_get d_PW_writePattern_1 f_PW_12 hp rfl ?_
  refine w_callV (as := []) (st := []) d_PW_writePattern_4 yM_CR_clear l_PW_18 vM_CR_clear hpr rfl rfl rfl rfl (m_CR_clear hrow) (by decide) (by decide) (by decide) (by decide) (Nat.le_of_ble_eq_true rfl) ?_
  rintro _ h1_ ⟨rfl, hr1, ho1⟩
  refine w_eq (st' := []) rfl ?_
  have kp := (ho1 p (by omega)).trans hp
  refine w_aload_n d_PW_writePattern_7 rfl rfl ?_
  refine w_iconst (v := nI 1) d_PW_writePattern_8 (by decide) ?_
  refine w_put d_PW_writePattern_9 f_PW_21 rfl kp rfl rfl rfl ?_
  refine w_nm (fun h1 e1 => ?_)
  have kp_1 := wS_eq e1 kp
  refine w_aload_n d_PW_writePattern_12 rfl rfl ?_
  refine w_bipush (v := nI 91) d_PW_writePattern_13 (by decide) ?_
  refine w_callV (as := [.int (nI 91)]) (st := []) d_PW_writePattern_15 yM_PW_put l_PW_25 vM_PW_put kp_1 rfl rfl rfl rfl (m_PW_put (o := []) ⟨kp_1, hr1.off (fun k hk => by rw [wS_off e1 (by omega)] : wOff h1_ h1 p 1) (by omega)⟩) (by decide) (by decide) (by decide) (by decide) (Nat.le_of_ble_eq_true rfl) ?_
  rintro _ h5 ⟨rfl, w5, o5⟩
  refine w_eq (st' := []) rfl ?_
  refine w_iconst (v := nI 0) d_PW_writePattern_18 (by decide) ?_
  refine w_istore_n d_PW_writePattern_19 (by decide) ?_
  refine w_pl (pl' := [some (.ref p), some (.ref q), some (.int (nI 0))]) rfl ?_
  refine LR (E.length + 1) 0 ([] ++ [91]) h5 (by omega) (by omega) w5 (fun k hk => ?_) (by rw [List.drop_zero]; rfl)
  rw [o5 k hk, wS_off e1 (by omega), ho1 k (by omega)]
end PW2
