/-! the reference's print: written by wip/gen/mo7.py -/
/-- the reference's writer has put o -/
def hW (h : wH) (sz ap gd dp : Int32) (o : List Nat) : Prop := h[57]? = some (.inr (7, [.ref 58, .int (sz), .ref 59, .ref 60, .ref 61, .ref 62, .int (ap), .int (gd), .int (dp), .ref 63, .ref 64, .ref 65, .ref 66, .int (nI (o.take 60).length), .int (bI (decide (o.length ≤ 60))), .ref 67])) ∧ ∃ f : Nat → Int32, h[66]? = some (.inl (0, 60, .inl f)) ∧ ∀ i x, (o.take 60)[i]? = some x → f i = nI x
def wO2 (h h' : wH) : Prop := ∀ j, j ≠ 57 → j ≠ 66 → h'[j]? = h[j]?
theorem wO2.rf {h : wH} : wO2 h h := fun _ _ _ => rfl
theorem wO2.tr {h h' h'' : wH} (a : wO2 h h') (b : wO2 h' h'') : wO2 h h'' := fun j h1 h2 => (b j h1 h2).trans (a j h1 h2)
def spc (c : Nat) : Bool := decide (c = 91 ∨ c = 93 ∨ c = 123 ∨ c = 125 ∨ c = 45 ∨ c = 38 ∨ c = 94 ∨ c = 92)
theorem sgn_spc (c : Nat) : sgn c = (spc c || decide (c = 58)) := by
  unfold sgn spc
  rw [← Bool.decide_or]
  exact decide_eq_decide.mpr ⟨fun z => by omega, fun z => by omega⟩
theorem mn_min {S T : List Nat} (hR : sR S T) (hk : ∀ y ∈ T, sOk y) {n y lo : Nat} (hy : S[n]? = some y) (hlo : lo ≤ y - 4398048608256) (hlo2 : ∀ i z, i < n → S[i]? = some z → z - 4398048608256 < lo) : mn lo (T.map (fun s => s - 4398048608256)) 9223372036854775807 = y - 4398048608256 := by
  have hsp := mn_spec lo (T.map (fun s => s - 4398048608256)) 9223372036854775807
  have hyT := (hR.2.2 y).mp (List.mem_of_getElem? hy)
  have hyk := sOk_lt (hk y hyT)
  have h1 := hsp.2.1 (y - 4398048608256) (List.mem_map.mpr ⟨y, hyT, rfl⟩) hlo
  rcases hsp.2.2 with h2 | h2
  · have := sOk_k0 (hk y hyT)
    omega
  · obtain ⟨z, hz, hze⟩ := List.mem_map.mp h2.1
    obtain ⟨i, hi, hzi⟩ := List.getElem_of_mem ((hR.2.2 z).mpr hz)
    have hzi2 : S[i]? = some z := by rw [List.getElem?_eq_getElem hi, hzi]
    have hin : ¬ i < n := fun q => by
      have := hlo2 i z q hzi2
      omega
    have : y ≤ z := by
      by_cases he : i = n
      · subst he
        rw [hzi2] at hy
        cases hy
        exact Nat.le_refl _
      · have := eAsc_lt hR.1 (show n < i by omega) hy hzi2
        omega
    omega
theorem nodup_len : ∀ (E L : List Nat), E.Nodup → (∀ x ∈ E, x ∈ L) → E.length ≤ L.length
  | [], L, _, _ => Nat.zero_le _
  | a :: E, L, hA, hs => by
    obtain ⟨h1, h2⟩ := List.nodup_cons.mp hA
    have h := hs a (List.mem_cons_self ..)
    have := nodup_len E (L.erase a) h2 (fun x hx => (List.mem_erase_of_ne (fun (z : x = a) => h1 (z ▸ hx))).mpr (hs x (List.mem_cons_of_mem _ hx)))
    rw [List.length_erase_of_mem h] at this
    have := List.length_pos_of_mem h
    rw [List.length_cons]
    omega
theorem sR_len {S T : List Nat} (h : sR S T) : S.length = T.length := by
  have h1 := len_sub S T [] h.1 (fun x hx => Or.inl ((h.2.2 x).mp hx))
  have h2 := nodup_len T S h.2.1 (fun x hx => (h.2.2 x).mpr hx)
  rw [List.length_nil] at h1
  omega
section MO7
variable {X : wX}
set_option maxHeartbeats 4000000 in
set_option maxRecDepth 100000 in
theorem m_MO_special {h : wH} {c : Nat} (hc : c < 2 ^ 31) : PM X M_MO_special 0 0 0 [.int (nI c)] h (fun z h' => z = some (.int (bI (spc c))) ∧ h' = h) := by
  refine PM.at (pl := [some (.int (nI c))]) rfl rfl (by simp [wle, wen]) ?_
  generalize hEN : wEm X 0 0 _ = EN
  refine w_iload_n d_MO_special_0 rfl ?_
  refine w_bipush (v := nI 91) d_MO_special_1 (by decide) ?_
  suffices J48 : spc c = true → WP X M_MO_special (wR 0 0 0) 0 EN 0 0 48 [some (.int (nI c))] [] h by
    refine w_icmp_eq (tgt := 48) d_MO_special_3 rfl (fun c3 => ?_) (fun c3 => ?_)
    · have c3 : c = 91 := (nI_eq hc (by decide)).mp c3
      exact J48 (decide_eq_true (by omega))
    · have c3 : ¬ c = 91 := fun z => c3 (by rw [z])
      refine w_iload_n d_MO_special_6 rfl ?_
      refine w_bipush (v := nI 93) d_MO_special_7 (by decide) ?_
      refine w_icmp_eq (tgt := 48) d_MO_special_9 rfl (fun c9 => ?_) (fun c9 => ?_)
      · have c9 : c = 93 := (nI_eq hc (by decide)).mp c9
        exact J48 (decide_eq_true (by omega))
      · have c9 : ¬ c = 93 := fun z => c9 (by rw [z])
        refine w_iload_n d_MO_special_12 rfl ?_
        refine w_bipush (v := nI 123) d_MO_special_13 (by decide) ?_
        refine w_icmp_eq (tgt := 48) d_MO_special_15 rfl (fun c15 => ?_) (fun c15 => ?_)
        · have c15 : c = 123 := (nI_eq hc (by decide)).mp c15
          exact J48 (decide_eq_true (by omega))
        · have c15 : ¬ c = 123 := fun z => c15 (by rw [z])
          refine w_iload_n d_MO_special_18 rfl ?_
          refine w_bipush (v := nI 125) d_MO_special_19 (by decide) ?_
          refine w_icmp_eq (tgt := 48) d_MO_special_21 rfl (fun c21 => ?_) (fun c21 => ?_)
          · have c21 : c = 125 := (nI_eq hc (by decide)).mp c21
            exact J48 (decide_eq_true (by omega))
          · have c21 : ¬ c = 125 := fun z => c21 (by rw [z])
            refine w_iload_n d_MO_special_24 rfl ?_
            refine w_bipush (v := nI 45) d_MO_special_25 (by decide) ?_
            refine w_icmp_eq (tgt := 48) d_MO_special_27 rfl (fun c27 => ?_) (fun c27 => ?_)
            · have c27 : c = 45 := (nI_eq hc (by decide)).mp c27
              exact J48 (decide_eq_true (by omega))
            · have c27 : ¬ c = 45 := fun z => c27 (by rw [z])
              refine w_iload_n d_MO_special_30 rfl ?_
              refine w_bipush (v := nI 38) d_MO_special_31 (by decide) ?_
              refine w_icmp_eq (tgt := 48) d_MO_special_33 rfl (fun c33 => ?_) (fun c33 => ?_)
              · have c33 : c = 38 := (nI_eq hc (by decide)).mp c33
                exact J48 (decide_eq_true (by omega))
              · have c33 : ¬ c = 38 := fun z => c33 (by rw [z])
                refine w_iload_n d_MO_special_36 rfl ?_
                refine w_bipush (v := nI 94) d_MO_special_37 (by decide) ?_
                refine w_icmp_eq (tgt := 48) d_MO_special_39 rfl (fun c39 => ?_) (fun c39 => ?_)
                · have c39 : c = 94 := (nI_eq hc (by decide)).mp c39
                  exact J48 (decide_eq_true (by omega))
                · have c39 : ¬ c = 94 := fun z => c39 (by rw [z])
                  refine w_iload_n d_MO_special_42 rfl ?_
                  refine w_bipush (v := nI 92) d_MO_special_43 (by decide) ?_
                  refine w_icmp_ne (tgt := 52) d_MO_special_45 rfl (fun c45 => ?_) (fun c45 => ?_)
                  · have c45 : ¬ c = 92 := fun z => c45 (by rw [z])
                    refine w_iconst (v := nI 0) d_MO_special_52 (by decide) ?_
                    rw [← hEN]
                    refine w_zret d_MO_special_53 rfl (by first | exact Or.inl rfl | exact Or.inr rfl) ?_
                    first
                    | (rw [hsp]; exact ⟨rfl, rfl⟩)
                    | (rw [show spc c = false from decide_eq_false (by omega)]; exact ⟨rfl, rfl⟩)
                  · have c45 : c = 92 := (nI_eq hc (by decide)).mp c45
                    exact J48 (decide_eq_true (by omega))
  intro hsp
  refine w_iconst (v := nI 1) d_MO_special_48 (by decide) ?_
  refine w_goto (tgt := 53) d_MO_special_49 rfl ?_
  rw [← hEN]
  refine w_zret d_MO_special_53 rfl (by first | exact Or.inl rfl | exact Or.inr rfl) ?_
  first
  | (rw [hsp]; exact ⟨rfl, rfl⟩)
  | (rw [show spc c = false from decide_eq_false (by omega)]; exact ⟨rfl, rfl⟩)
set_option maxHeartbeats 4000000 in
set_option maxRecDepth 100000 in
theorem m_MO_put {h : wH} {sz ap gd dp : Int32} {o : List Nat} (hw : hW h sz ap gd dp o) {c : Nat} : PM X M_MO_put 0 0 0 [.ref 57, .int (nI c)] h (fun z h' => z = none ∧ hW h' sz ap gd dp (o ++ [c]) ∧ wO2 h h') := by
  obtain ⟨hx, f, h66, hf⟩ := hw
  have lt9 : (o.take 60).length = min 60 o.length := List.length_take
  refine PM.at (pl := [some (.ref 57), some (.int (nI c))]) rfl rfl (by simp [wle, wen]) ?_
  generalize hEN : wEm X 0 0 _ = EN
  refine w_aload_n d_MO_put_0 rfl rfl ?_
  refine w_aload_n d_MO_put_1 rfl rfl ?_
  refine w_get d_MO_put_2 f_MO_202 hx rfl ?_
  suffices J22 : WP X M_MO_put (wR 0 0 0) 0 EN 0 0 22 [some (.ref 57), some (.int (nI c))] [.int (bI (decide (o.length < 60))), .ref 57] h by
    refine w_if_eq (tgt := 21) d_MO_put_5 rfl (fun c5 => ?_) (fun c5 => ?_)
    · have c5 : ¬ o.length ≤ 60 := of_decide_eq_false (bI_f c5)
      refine w_iconst (v := nI 0) d_MO_put_21 (by decide) ?_
      exact w_topi (by rw [decide_eq_false (by omega)]; rfl) J22
    · have c5 : o.length ≤ 60 := of_decide_eq_true (bI_t c5)
      refine w_aload_n d_MO_put_8 rfl rfl ?_
      refine w_get d_MO_put_9 f_MO_205 hx rfl ?_
      refine w_bipush (v := nI 60) d_MO_put_12 (by decide) ?_
      refine w_icmp_ge (tgt := 21) d_MO_put_14 rfl (fun c14 => ?_) (fun c14 => ?_)
      · have c14 : 60 ≤ (o.take 60).length := (nI_leI (by decide) (by omega)).mp c14
        refine w_iconst (v := nI 0) d_MO_put_21 (by decide) ?_
        exact w_topi (by rw [decide_eq_false (by omega)]; rfl) J22
      · have c14 : ¬ 60 ≤ (o.take 60).length := fun z => c14 ((nI_leI (by decide) (by omega)).mpr z)
        refine w_iconst (v := nI 1) d_MO_put_17 (by decide) ?_
        refine w_goto (tgt := 22) d_MO_put_18 rfl ?_
        exact w_topi (by rw [decide_eq_true (by omega)]; rfl) J22
  refine w_put d_MO_put_22 f_MO_202 rfl hx rfl (bI_nar _) (bI_fit _) ?_
  refine w_nm (fun h1 e1 => ?_)
  have hx_1 := wS_eq e1 hx
  have h66_1 := wS_ne e1 (by omega) h66
  refine w_aload_n d_MO_put_25 rfl rfl ?_
  refine w_get d_MO_put_26 f_MO_202 hx_1 rfl ?_
  refine w_if_eq (tgt := 52) d_MO_put_29 rfl (fun c29 => ?_) (fun c29 => ?_)
  · have c29 : ¬ o.length < 60 := of_decide_eq_false (bI_f c29)
    rw [← hEN]
    refine w_vret d_MO_put_52 rfl ?_
    have e10 : (o ++ [c]).take 60 = o.take 60 := List.take_append_of_le_length (by omega)
    refine ⟨rfl, ⟨?_, f, h66_1, ?_⟩, fun j h1 h2 => by rw [wS_off e1 (by omega)]⟩
    · have q := hx_1
      rw [e10, show decide ((o ++ [c]).length ≤ 60) = decide (o.length < 60) from decide_eq_decide.mpr (by rw [List.length_append, List.length_singleton]; omega)]
      exact q
    · rw [e10]; exact hf
  · have c29 : o.length < 60 := of_decide_eq_true (bI_t c29)
    have e9 : o.take 60 = o := List.take_of_length_le (by omega)
    refine w_aload_n d_MO_put_32 rfl rfl ?_
    refine w_get d_MO_put_33 f_MO_36 hx_1 rfl ?_
    refine w_aload_n d_MO_put_36 rfl rfl ?_
    refine w_get d_MO_put_37 f_MO_205 hx_1 rfl ?_
    refine w_iload_n d_MO_put_40 rfl ?_
    refine w_iast d_MO_put_41 h66_1 (vp_in_nI (by omega) (by decide)) ?_
    refine w_nm (fun h2 e2 => ?_)
    have hx_2 := wS_ne e2 (by omega) hx_1
    have h66_2 := wS_eq e2 h66_1
    refine w_aload_n d_MO_put_42 rfl rfl ?_
    refine w_aload_n d_MO_put_43 rfl rfl ?_
    refine w_get d_MO_put_44 f_MO_205 hx_2 rfl ?_
    refine w_iconst (v := nI 1) d_MO_put_47 (by decide) ?_
    refine w_iadd d_MO_put_48 ?_
    refine w_topi (y := nI ((o.take 60).length + 1)) (nI_1 _) ?_
    refine w_put d_MO_put_49 f_MO_205 rfl hx_2 rfl rfl rfl ?_
    refine w_nm (fun h3 e3 => ?_)
    have hx_3 := wS_eq e3 hx_2
    have h66_3 := wS_ne e3 (by omega) h66_2
    rw [← hEN]
    refine w_vret d_MO_put_52 rfl ?_
    have e10 : (o ++ [c]).take 60 = o ++ [c] := List.take_of_length_le (by rw [List.length_append, List.length_singleton]; omega)
    refine ⟨rfl, ⟨?_, _, h66_3, ?_⟩, fun j h1 h2 => by rw [wS_off e3 (by omega), wS_off e2 (by omega), wS_off e1 (by omega)]⟩
    · have q := hx_3
      rw [e9] at q
      rw [e10, show decide ((o ++ [c]).length ≤ 60) = decide (o.length < 60) from decide_eq_decide.mpr (by rw [List.length_append, List.length_singleton]; omega), List.length_append, List.length_singleton]
      exact q
    · rw [e10, nI_clamp (by omega), e9]
      rw [e9] at hf
      exact upd_at hf
set_option maxHeartbeats 4000000 in
set_option maxRecDepth 100000 in
theorem m_MO_putPoint {h : wH} {sz ap gd dp : Int32} {o : List Nat} (hw : hW h sz ap gd dp o) {c : Nat} (hc : c < 1114112) : PM X M_MO_putPoint 1 0 0 [.ref 57, .int (nI c)] h (fun z h' => z = none ∧ hW h' sz ap gd dp (o ++ cT c) ∧ wO2 h h') := by
  have hx0 := hw.1
  refine PM.at (pl := [some (.ref 57), some (.int (nI c)), none, none]) rfl rfl (by simp [wle, wen]) ?_
  generalize hEN : wEm X 0 0 _ = EN
  refine w_iload_n d_MO_putPoint_0 rfl ?_
  refine w_bipush (v := nI 33) d_MO_putPoint_1 (by decide) ?_
  suffices J37 : (c < 33 ∨ 126 < c) → WP X M_MO_putPoint (wR 1 0 0) 0 EN 0 0 37 [some (.ref 57), some (.int (nI c)), none, none] [] h by
    refine w_icmp_lt (tgt := 37) d_MO_putPoint_3 rfl (fun c3 => ?_) (fun c3 => ?_)
    · have hout : c < 33 ∨ 126 < c := Or.inl ((nI_ltI (by omega) (by decide)).mp c3)
      exact J37 hout
    · have c3 : ¬ c < 33 := fun z => c3 ((nI_ltI (by omega) (by decide)).mpr z)
      refine w_iload_n d_MO_putPoint_6 rfl ?_
      refine w_bipush (v := nI 126) d_MO_putPoint_7 (by decide) ?_
      refine w_icmp_gt (tgt := 37) d_MO_putPoint_9 rfl (fun c9 => ?_) (fun c9 => ?_)
      · have hout : c < 33 ∨ 126 < c := Or.inr ((nI_ltI (by decide) (by omega)).mp c9)
        exact J37 hout
      · have c9 : ¬ 126 < c := fun z => c9 ((nI_ltI (by decide) (by omega)).mpr z)
        refine w_iload_n d_MO_putPoint_12 rfl ?_
        refine w_callS (as := [.int (nI c)]) (st := []) d_MO_putPoint_13 yM_MO_special l_MO_97 sM_MO_special rfl rfl (m_MO_special (by omega)) (by decide) (by decide) (by decide) (by decide) (Nat.le_of_ble_eq_true rfl) ?_
        rintro _ h9_1 ⟨rfl, e9_1⟩
        rw [e9_1]
        refine w_eq (st' := [.int (bI (spc c))]) rfl ?_
        suffices J25 : sgn c = true → WP X M_MO_putPoint (wR 1 0 0) 0 EN 0 0 25 [some (.ref 57), some (.int (nI c)), none, none] [] h by
          refine w_if_ne (tgt := 25) d_MO_putPoint_16 rfl (fun c16 => ?_) (fun c16 => ?_)
          · have c16 := bI_t c16
            exact J25 (by rw [sgn_spc, c16]; rfl)
          · have c16 := bI_f c16
            refine w_iload_n d_MO_putPoint_19 rfl ?_
            refine w_bipush (v := nI 58) d_MO_putPoint_20 (by decide) ?_
            refine w_icmp_ne (tgt := 31) d_MO_putPoint_22 rfl (fun c22 => ?_) (fun c22 => ?_)
            · have c22 : ¬ c = 58 := fun z => c22 (by rw [z])
              have hns : sgn c = false := by rw [sgn_spc, c16, decide_eq_false c22]; rfl
              refine w_aload_n d_MO_putPoint_31 rfl rfl ?_
              refine w_iload_n d_MO_putPoint_32 rfl ?_
              refine w_callV (as := [.int (nI c)]) (st := []) d_MO_putPoint_33 yM_MO_put l_MO_208 vM_MO_put hx0 rfl rfl rfl rfl (m_MO_put hw) (by decide) (by decide) (by decide) (by decide) (Nat.le_of_ble_eq_true rfl) ?_
              rintro _ g1 ⟨rfl, w1, o1⟩
              refine w_eq (st' := []) rfl ?_
              have kx1 := w1.1
              rw [← hEN]
              refine w_vret d_MO_putPoint_36 rfl ?_
              unfold cT
              rw [if_neg (by omega)]
              first
              | (rw [if_pos hsg]; exact ⟨rfl, by rw [← List.append_assoc]; exact w2, o1.tr o2⟩)
              | (rw [if_neg (by rw [hns]; decide)]; exact ⟨rfl, w1, o1⟩)
            · have c22 : c = 58 := (nI_eq (by omega) (by decide)).mp c22
              exact J25 (by rw [sgn_spc, decide_eq_true c22, Bool.or_true])
        intro hsg
        refine w_aload_n d_MO_putPoint_25 rfl rfl ?_
        refine w_bipush (v := nI 92) d_MO_putPoint_26 (by decide) ?_
        refine w_callV (as := [.int (nI 92)]) (st := []) d_MO_putPoint_28 yM_MO_put l_MO_208 vM_MO_put hx0 rfl rfl rfl rfl (m_MO_put hw) (by decide) (by decide) (by decide) (by decide) (Nat.le_of_ble_eq_true rfl) ?_
        rintro _ g1 ⟨rfl, w1, o1⟩
        refine w_eq (st' := []) rfl ?_
        have kx1 := w1.1
        refine w_aload_n d_MO_putPoint_31 rfl rfl ?_
        refine w_iload_n d_MO_putPoint_32 rfl ?_
        refine w_callV (as := [.int (nI c)]) (st := []) d_MO_putPoint_33 yM_MO_put l_MO_208 vM_MO_put kx1 rfl rfl rfl rfl (m_MO_put w1) (by decide) (by decide) (by decide) (by decide) (Nat.le_of_ble_eq_true rfl) ?_
        rintro _ g2 ⟨rfl, w2, o2⟩
        refine w_eq (st' := []) rfl ?_
        have kx2 := w2.1
        rw [← hEN]
        refine w_vret d_MO_putPoint_36 rfl ?_
        unfold cT
        rw [if_neg (by omega)]
        first
        | (rw [if_pos hsg]; exact ⟨rfl, by rw [← List.append_assoc]; exact w2, o1.tr o2⟩)
        | (rw [if_neg (by rw [hns]; decide)]; exact ⟨rfl, w1, o1⟩)
  intro hout
  refine w_aload_n d_MO_putPoint_37 rfl rfl ?_
  refine w_bipush (v := nI 92) d_MO_putPoint_38 (by decide) ?_
  refine w_callV (as := [.int (nI 92)]) (st := []) d_MO_putPoint_40 yM_MO_put l_MO_208 vM_MO_put hx0 rfl rfl rfl rfl (m_MO_put hw) (by decide) (by decide) (by decide) (by decide) (Nat.le_of_ble_eq_true rfl) ?_
  rintro _ g1 ⟨rfl, w1, o1⟩
  refine w_eq (st' := []) rfl ?_
  have kx1 := w1.1
  refine w_aload_n d_MO_putPoint_43 rfl rfl ?_
  refine w_bipush (v := nI 120) d_MO_putPoint_44 (by decide) ?_
  refine w_callV (as := [.int (nI 120)]) (st := []) d_MO_putPoint_46 yM_MO_put l_MO_208 vM_MO_put kx1 rfl rfl rfl rfl (m_MO_put w1) (by decide) (by decide) (by decide) (by decide) (Nat.le_of_ble_eq_true rfl) ?_
  rintro _ g2 ⟨rfl, w2, o2⟩
  refine w_eq (st' := []) rfl ?_
  have kx2 := w2.1
  refine w_aload_n d_MO_putPoint_49 rfl rfl ?_
  refine w_bipush (v := nI 123) d_MO_putPoint_50 (by decide) ?_
  refine w_callV (as := [.int (nI 123)]) (st := []) d_MO_putPoint_52 yM_MO_put l_MO_208 vM_MO_put kx2 rfl rfl rfl rfl (m_MO_put w2) (by decide) (by decide) (by decide) (by decide) (Nat.le_of_ble_eq_true rfl) ?_
  rintro _ g3 ⟨rfl, w3, o3⟩
  refine w_eq (st' := []) rfl ?_
  have kx3 := w3.1
  refine w_bipush (v := nI 20) d_MO_putPoint_55 (by decide) ?_
  refine w_istore_n d_MO_putPoint_57 (by decide) ?_
  refine w_pl (pl' := [some (.ref 57), some (.int (nI c)), some (.int (nI 20)), none]) rfl ?_
  refine w_iload_n d_MO_putPoint_58 rfl ?_
  refine w_if_le (tgt := 75) d_MO_putPoint_59 rfl (fun z => absurd z (by decide)) (fun _ => ?_)
  refine w_iload_n d_MO_putPoint_62 rfl ?_
  refine w_iload_n d_MO_putPoint_63 rfl ?_
  refine w_ishr d_MO_putPoint_64 ?_
  refine w_topi (y := nI (c / 2 ^ 20)) (pk_shrN (by omega) _ 20 (by decide)) ?_
  refine w_if_ne (tgt := 75) d_MO_putPoint_65 rfl (fun c65 => ?_) (fun c65 => ?_)
  · have z20 : ¬ c / 2 ^ 20 = 0 := fun z => c65 (by rw [z]; decide)
    refine w_iload_n d_MO_putPoint_75 rfl ?_
    refine w_if_lt (tgt := 117) d_MO_putPoint_76 rfl (fun z => absurd z (by decide)) (fun _ => ?_)
    refine w_iload_n d_MO_putPoint_79 rfl ?_
    refine w_iload_n d_MO_putPoint_80 rfl ?_
    refine w_ishr d_MO_putPoint_81 ?_
    refine w_topi (y := nI (c / 2 ^ 20)) (pk_shrN (by omega) _ 20 (by decide)) ?_
    refine w_bipush (v := nI 15) d_MO_putPoint_82 (by decide) ?_
    refine w_iand d_MO_putPoint_84 ?_
    refine w_topi (y := nI (c / 2 ^ 20 % 16)) (pk_andN (m := nI 15) (by omega) 4 (by decide)) ?_
    refine w_istore_n d_MO_putPoint_85 (by decide) ?_
    refine w_pl (pl' := [some (.ref 57), some (.int (nI c)), some (.int (nI 20)), some (.int (nI (c / 2 ^ 20 % 16)))]) rfl ?_
    refine w_aload_n d_MO_putPoint_86 rfl rfl ?_
    refine w_iload_n d_MO_putPoint_87 rfl ?_
    refine w_bipush (v := nI 10) d_MO_putPoint_88 (by decide) ?_
    suffices J107 : WP X M_MO_putPoint (wR 1 0 0) 0 EN 0 0 107 [some (.ref 57), some (.int (nI c)), some (.int (nI 20)), some (.int (nI (c / 2 ^ 20 % 16)))] [.int (nI (dg (c / 2 ^ 20 % 16))), .ref 57] g3 by
      refine w_icmp_ge (tgt := 100) d_MO_putPoint_90 rfl (fun c90 => ?_) (fun c90 => ?_)
      · have c90 := (nI_leI (a := 10) (b := c / 2 ^ 20 % 16) (by omega) (by omega)).mp c90
        refine w_bipush (v := nI 97) d_MO_putPoint_100 (by decide) ?_
        refine w_iload_n d_MO_putPoint_102 rfl ?_
        refine w_iadd d_MO_putPoint_103 ?_
        refine w_topi (y := nI (97 + c / 2 ^ 20 % 16)) (nI_add _ _) ?_
        refine w_bipush (v := nI 10) d_MO_putPoint_104 (by decide) ?_
        refine w_isub d_MO_putPoint_106 ?_
        refine w_topi (y := nI (97 + c / 2 ^ 20 % 16 - 10)) (pk_sub (by omega)) ?_
        exact w_topi (congrArg nI (show _ = dg (c / 2 ^ 20 % 16) from (if_neg (by omega)).symm)) J107
      · have c90 : c / 2 ^ 20 % 16 < 10 := Nat.not_le.mp (fun z => c90 ((nI_leI (a := 10) (b := c / 2 ^ 20 % 16) (by omega) (by omega)).mpr z))
        refine w_bipush (v := nI 48) d_MO_putPoint_93 (by decide) ?_
        refine w_iload_n d_MO_putPoint_95 rfl ?_
        refine w_iadd d_MO_putPoint_96 ?_
        refine w_topi (y := nI (48 + c / 2 ^ 20 % 16)) (nI_add _ _) ?_
        refine w_goto (tgt := 107) d_MO_putPoint_97 rfl ?_
        exact w_topi (congrArg nI (show _ = dg (c / 2 ^ 20 % 16) from (if_pos c90).symm)) J107
    refine w_callV (as := [.int (nI (dg (c / 2 ^ 20 % 16)))]) (st := []) d_MO_putPoint_107 yM_MO_put l_MO_208 vM_MO_put kx3 rfl rfl rfl rfl (m_MO_put w3) (by decide) (by decide) (by decide) (by decide) (Nat.le_of_ble_eq_true rfl) ?_
    rintro _ g4 ⟨rfl, w4, o4⟩
    refine w_eq (st' := []) rfl ?_
    have kx4 := w4.1
    refine w_iload_n d_MO_putPoint_110 rfl ?_
    refine w_iconst (v := nI 4) d_MO_putPoint_111 (by decide) ?_
    refine w_isub d_MO_putPoint_112 ?_
    refine w_topi (y := nI 16) (by decide) ?_
    refine w_istore_n d_MO_putPoint_113 (by decide) ?_
    refine w_pl (pl' := [some (.ref 57), some (.int (nI c)), some (.int (nI 16)), some (.int (nI (c / 2 ^ 20 % 16)))]) rfl ?_
    refine w_goto (tgt := 75) d_MO_putPoint_114 rfl ?_
    refine w_iload_n d_MO_putPoint_75 rfl ?_
    refine w_if_lt (tgt := 117) d_MO_putPoint_76 rfl (fun z => absurd z (by decide)) (fun _ => ?_)
    refine w_iload_n d_MO_putPoint_79 rfl ?_
    refine w_iload_n d_MO_putPoint_80 rfl ?_
    refine w_ishr d_MO_putPoint_81 ?_
    refine w_topi (y := nI (c / 2 ^ 16)) (pk_shrN (by omega) _ 16 (by decide)) ?_
    refine w_bipush (v := nI 15) d_MO_putPoint_82 (by decide) ?_
    refine w_iand d_MO_putPoint_84 ?_
    refine w_topi (y := nI (c / 2 ^ 16 % 16)) (pk_andN (m := nI 15) (by omega) 4 (by decide)) ?_
    refine w_istore_n d_MO_putPoint_85 (by decide) ?_
    refine w_pl (pl' := [some (.ref 57), some (.int (nI c)), some (.int (nI 16)), some (.int (nI (c / 2 ^ 16 % 16)))]) rfl ?_
    refine w_aload_n d_MO_putPoint_86 rfl rfl ?_
    refine w_iload_n d_MO_putPoint_87 rfl ?_
    refine w_bipush (v := nI 10) d_MO_putPoint_88 (by decide) ?_
    suffices J107 : WP X M_MO_putPoint (wR 1 0 0) 0 EN 0 0 107 [some (.ref 57), some (.int (nI c)), some (.int (nI 16)), some (.int (nI (c / 2 ^ 16 % 16)))] [.int (nI (dg (c / 2 ^ 16 % 16))), .ref 57] g4 by
      refine w_icmp_ge (tgt := 100) d_MO_putPoint_90 rfl (fun c90 => ?_) (fun c90 => ?_)
      · have c90 := (nI_leI (a := 10) (b := c / 2 ^ 16 % 16) (by omega) (by omega)).mp c90
        refine w_bipush (v := nI 97) d_MO_putPoint_100 (by decide) ?_
        refine w_iload_n d_MO_putPoint_102 rfl ?_
        refine w_iadd d_MO_putPoint_103 ?_
        refine w_topi (y := nI (97 + c / 2 ^ 16 % 16)) (nI_add _ _) ?_
        refine w_bipush (v := nI 10) d_MO_putPoint_104 (by decide) ?_
        refine w_isub d_MO_putPoint_106 ?_
        refine w_topi (y := nI (97 + c / 2 ^ 16 % 16 - 10)) (pk_sub (by omega)) ?_
        exact w_topi (congrArg nI (show _ = dg (c / 2 ^ 16 % 16) from (if_neg (by omega)).symm)) J107
      · have c90 : c / 2 ^ 16 % 16 < 10 := Nat.not_le.mp (fun z => c90 ((nI_leI (a := 10) (b := c / 2 ^ 16 % 16) (by omega) (by omega)).mpr z))
        refine w_bipush (v := nI 48) d_MO_putPoint_93 (by decide) ?_
        refine w_iload_n d_MO_putPoint_95 rfl ?_
        refine w_iadd d_MO_putPoint_96 ?_
        refine w_topi (y := nI (48 + c / 2 ^ 16 % 16)) (nI_add _ _) ?_
        refine w_goto (tgt := 107) d_MO_putPoint_97 rfl ?_
        exact w_topi (congrArg nI (show _ = dg (c / 2 ^ 16 % 16) from (if_pos c90).symm)) J107
    refine w_callV (as := [.int (nI (dg (c / 2 ^ 16 % 16)))]) (st := []) d_MO_putPoint_107 yM_MO_put l_MO_208 vM_MO_put kx4 rfl rfl rfl rfl (m_MO_put w4) (by decide) (by decide) (by decide) (by decide) (Nat.le_of_ble_eq_true rfl) ?_
    rintro _ g5 ⟨rfl, w5, o5⟩
    refine w_eq (st' := []) rfl ?_
    have kx5 := w5.1
    refine w_iload_n d_MO_putPoint_110 rfl ?_
    refine w_iconst (v := nI 4) d_MO_putPoint_111 (by decide) ?_
    refine w_isub d_MO_putPoint_112 ?_
    refine w_topi (y := nI 12) (by decide) ?_
    refine w_istore_n d_MO_putPoint_113 (by decide) ?_
    refine w_pl (pl' := [some (.ref 57), some (.int (nI c)), some (.int (nI 12)), some (.int (nI (c / 2 ^ 16 % 16)))]) rfl ?_
    refine w_goto (tgt := 75) d_MO_putPoint_114 rfl ?_
    refine w_iload_n d_MO_putPoint_75 rfl ?_
    refine w_if_lt (tgt := 117) d_MO_putPoint_76 rfl (fun z => absurd z (by decide)) (fun _ => ?_)
    refine w_iload_n d_MO_putPoint_79 rfl ?_
    refine w_iload_n d_MO_putPoint_80 rfl ?_
    refine w_ishr d_MO_putPoint_81 ?_
    refine w_topi (y := nI (c / 2 ^ 12)) (pk_shrN (by omega) _ 12 (by decide)) ?_
    refine w_bipush (v := nI 15) d_MO_putPoint_82 (by decide) ?_
    refine w_iand d_MO_putPoint_84 ?_
    refine w_topi (y := nI (c / 2 ^ 12 % 16)) (pk_andN (m := nI 15) (by omega) 4 (by decide)) ?_
    refine w_istore_n d_MO_putPoint_85 (by decide) ?_
    refine w_pl (pl' := [some (.ref 57), some (.int (nI c)), some (.int (nI 12)), some (.int (nI (c / 2 ^ 12 % 16)))]) rfl ?_
    refine w_aload_n d_MO_putPoint_86 rfl rfl ?_
    refine w_iload_n d_MO_putPoint_87 rfl ?_
    refine w_bipush (v := nI 10) d_MO_putPoint_88 (by decide) ?_
    suffices J107 : WP X M_MO_putPoint (wR 1 0 0) 0 EN 0 0 107 [some (.ref 57), some (.int (nI c)), some (.int (nI 12)), some (.int (nI (c / 2 ^ 12 % 16)))] [.int (nI (dg (c / 2 ^ 12 % 16))), .ref 57] g5 by
      refine w_icmp_ge (tgt := 100) d_MO_putPoint_90 rfl (fun c90 => ?_) (fun c90 => ?_)
      · have c90 := (nI_leI (a := 10) (b := c / 2 ^ 12 % 16) (by omega) (by omega)).mp c90
        refine w_bipush (v := nI 97) d_MO_putPoint_100 (by decide) ?_
        refine w_iload_n d_MO_putPoint_102 rfl ?_
        refine w_iadd d_MO_putPoint_103 ?_
        refine w_topi (y := nI (97 + c / 2 ^ 12 % 16)) (nI_add _ _) ?_
        refine w_bipush (v := nI 10) d_MO_putPoint_104 (by decide) ?_
        refine w_isub d_MO_putPoint_106 ?_
        refine w_topi (y := nI (97 + c / 2 ^ 12 % 16 - 10)) (pk_sub (by omega)) ?_
        exact w_topi (congrArg nI (show _ = dg (c / 2 ^ 12 % 16) from (if_neg (by omega)).symm)) J107
      · have c90 : c / 2 ^ 12 % 16 < 10 := Nat.not_le.mp (fun z => c90 ((nI_leI (a := 10) (b := c / 2 ^ 12 % 16) (by omega) (by omega)).mpr z))
        refine w_bipush (v := nI 48) d_MO_putPoint_93 (by decide) ?_
        refine w_iload_n d_MO_putPoint_95 rfl ?_
        refine w_iadd d_MO_putPoint_96 ?_
        refine w_topi (y := nI (48 + c / 2 ^ 12 % 16)) (nI_add _ _) ?_
        refine w_goto (tgt := 107) d_MO_putPoint_97 rfl ?_
        exact w_topi (congrArg nI (show _ = dg (c / 2 ^ 12 % 16) from (if_pos c90).symm)) J107
    refine w_callV (as := [.int (nI (dg (c / 2 ^ 12 % 16)))]) (st := []) d_MO_putPoint_107 yM_MO_put l_MO_208 vM_MO_put kx5 rfl rfl rfl rfl (m_MO_put w5) (by decide) (by decide) (by decide) (by decide) (Nat.le_of_ble_eq_true rfl) ?_
    rintro _ g6 ⟨rfl, w6, o6⟩
    refine w_eq (st' := []) rfl ?_
    have kx6 := w6.1
    refine w_iload_n d_MO_putPoint_110 rfl ?_
    refine w_iconst (v := nI 4) d_MO_putPoint_111 (by decide) ?_
    refine w_isub d_MO_putPoint_112 ?_
    refine w_topi (y := nI 8) (by decide) ?_
    refine w_istore_n d_MO_putPoint_113 (by decide) ?_
    refine w_pl (pl' := [some (.ref 57), some (.int (nI c)), some (.int (nI 8)), some (.int (nI (c / 2 ^ 12 % 16)))]) rfl ?_
    refine w_goto (tgt := 75) d_MO_putPoint_114 rfl ?_
    refine w_iload_n d_MO_putPoint_75 rfl ?_
    refine w_if_lt (tgt := 117) d_MO_putPoint_76 rfl (fun z => absurd z (by decide)) (fun _ => ?_)
    refine w_iload_n d_MO_putPoint_79 rfl ?_
    refine w_iload_n d_MO_putPoint_80 rfl ?_
    refine w_ishr d_MO_putPoint_81 ?_
    refine w_topi (y := nI (c / 2 ^ 8)) (pk_shrN (by omega) _ 8 (by decide)) ?_
    refine w_bipush (v := nI 15) d_MO_putPoint_82 (by decide) ?_
    refine w_iand d_MO_putPoint_84 ?_
    refine w_topi (y := nI (c / 2 ^ 8 % 16)) (pk_andN (m := nI 15) (by omega) 4 (by decide)) ?_
    refine w_istore_n d_MO_putPoint_85 (by decide) ?_
    refine w_pl (pl' := [some (.ref 57), some (.int (nI c)), some (.int (nI 8)), some (.int (nI (c / 2 ^ 8 % 16)))]) rfl ?_
    refine w_aload_n d_MO_putPoint_86 rfl rfl ?_
    refine w_iload_n d_MO_putPoint_87 rfl ?_
    refine w_bipush (v := nI 10) d_MO_putPoint_88 (by decide) ?_
    suffices J107 : WP X M_MO_putPoint (wR 1 0 0) 0 EN 0 0 107 [some (.ref 57), some (.int (nI c)), some (.int (nI 8)), some (.int (nI (c / 2 ^ 8 % 16)))] [.int (nI (dg (c / 2 ^ 8 % 16))), .ref 57] g6 by
      refine w_icmp_ge (tgt := 100) d_MO_putPoint_90 rfl (fun c90 => ?_) (fun c90 => ?_)
      · have c90 := (nI_leI (a := 10) (b := c / 2 ^ 8 % 16) (by omega) (by omega)).mp c90
        refine w_bipush (v := nI 97) d_MO_putPoint_100 (by decide) ?_
        refine w_iload_n d_MO_putPoint_102 rfl ?_
        refine w_iadd d_MO_putPoint_103 ?_
        refine w_topi (y := nI (97 + c / 2 ^ 8 % 16)) (nI_add _ _) ?_
        refine w_bipush (v := nI 10) d_MO_putPoint_104 (by decide) ?_
        refine w_isub d_MO_putPoint_106 ?_
        refine w_topi (y := nI (97 + c / 2 ^ 8 % 16 - 10)) (pk_sub (by omega)) ?_
        exact w_topi (congrArg nI (show _ = dg (c / 2 ^ 8 % 16) from (if_neg (by omega)).symm)) J107
      · have c90 : c / 2 ^ 8 % 16 < 10 := Nat.not_le.mp (fun z => c90 ((nI_leI (a := 10) (b := c / 2 ^ 8 % 16) (by omega) (by omega)).mpr z))
        refine w_bipush (v := nI 48) d_MO_putPoint_93 (by decide) ?_
        refine w_iload_n d_MO_putPoint_95 rfl ?_
        refine w_iadd d_MO_putPoint_96 ?_
        refine w_topi (y := nI (48 + c / 2 ^ 8 % 16)) (nI_add _ _) ?_
        refine w_goto (tgt := 107) d_MO_putPoint_97 rfl ?_
        exact w_topi (congrArg nI (show _ = dg (c / 2 ^ 8 % 16) from (if_pos c90).symm)) J107
    refine w_callV (as := [.int (nI (dg (c / 2 ^ 8 % 16)))]) (st := []) d_MO_putPoint_107 yM_MO_put l_MO_208 vM_MO_put kx6 rfl rfl rfl rfl (m_MO_put w6) (by decide) (by decide) (by decide) (by decide) (Nat.le_of_ble_eq_true rfl) ?_
    rintro _ g7 ⟨rfl, w7, o7⟩
    refine w_eq (st' := []) rfl ?_
    have kx7 := w7.1
    refine w_iload_n d_MO_putPoint_110 rfl ?_
    refine w_iconst (v := nI 4) d_MO_putPoint_111 (by decide) ?_
    refine w_isub d_MO_putPoint_112 ?_
    refine w_topi (y := nI 4) (by decide) ?_
    refine w_istore_n d_MO_putPoint_113 (by decide) ?_
    refine w_pl (pl' := [some (.ref 57), some (.int (nI c)), some (.int (nI 4)), some (.int (nI (c / 2 ^ 8 % 16)))]) rfl ?_
    refine w_goto (tgt := 75) d_MO_putPoint_114 rfl ?_
    refine w_iload_n d_MO_putPoint_75 rfl ?_
    refine w_if_lt (tgt := 117) d_MO_putPoint_76 rfl (fun z => absurd z (by decide)) (fun _ => ?_)
    refine w_iload_n d_MO_putPoint_79 rfl ?_
    refine w_iload_n d_MO_putPoint_80 rfl ?_
    refine w_ishr d_MO_putPoint_81 ?_
    refine w_topi (y := nI (c / 2 ^ 4)) (pk_shrN (by omega) _ 4 (by decide)) ?_
    refine w_bipush (v := nI 15) d_MO_putPoint_82 (by decide) ?_
    refine w_iand d_MO_putPoint_84 ?_
    refine w_topi (y := nI (c / 2 ^ 4 % 16)) (pk_andN (m := nI 15) (by omega) 4 (by decide)) ?_
    refine w_istore_n d_MO_putPoint_85 (by decide) ?_
    refine w_pl (pl' := [some (.ref 57), some (.int (nI c)), some (.int (nI 4)), some (.int (nI (c / 2 ^ 4 % 16)))]) rfl ?_
    refine w_aload_n d_MO_putPoint_86 rfl rfl ?_
    refine w_iload_n d_MO_putPoint_87 rfl ?_
    refine w_bipush (v := nI 10) d_MO_putPoint_88 (by decide) ?_
    suffices J107 : WP X M_MO_putPoint (wR 1 0 0) 0 EN 0 0 107 [some (.ref 57), some (.int (nI c)), some (.int (nI 4)), some (.int (nI (c / 2 ^ 4 % 16)))] [.int (nI (dg (c / 2 ^ 4 % 16))), .ref 57] g7 by
      refine w_icmp_ge (tgt := 100) d_MO_putPoint_90 rfl (fun c90 => ?_) (fun c90 => ?_)
      · have c90 := (nI_leI (a := 10) (b := c / 2 ^ 4 % 16) (by omega) (by omega)).mp c90
        refine w_bipush (v := nI 97) d_MO_putPoint_100 (by decide) ?_
        refine w_iload_n d_MO_putPoint_102 rfl ?_
        refine w_iadd d_MO_putPoint_103 ?_
        refine w_topi (y := nI (97 + c / 2 ^ 4 % 16)) (nI_add _ _) ?_
        refine w_bipush (v := nI 10) d_MO_putPoint_104 (by decide) ?_
        refine w_isub d_MO_putPoint_106 ?_
        refine w_topi (y := nI (97 + c / 2 ^ 4 % 16 - 10)) (pk_sub (by omega)) ?_
        exact w_topi (congrArg nI (show _ = dg (c / 2 ^ 4 % 16) from (if_neg (by omega)).symm)) J107
      · have c90 : c / 2 ^ 4 % 16 < 10 := Nat.not_le.mp (fun z => c90 ((nI_leI (a := 10) (b := c / 2 ^ 4 % 16) (by omega) (by omega)).mpr z))
        refine w_bipush (v := nI 48) d_MO_putPoint_93 (by decide) ?_
        refine w_iload_n d_MO_putPoint_95 rfl ?_
        refine w_iadd d_MO_putPoint_96 ?_
        refine w_topi (y := nI (48 + c / 2 ^ 4 % 16)) (nI_add _ _) ?_
        refine w_goto (tgt := 107) d_MO_putPoint_97 rfl ?_
        exact w_topi (congrArg nI (show _ = dg (c / 2 ^ 4 % 16) from (if_pos c90).symm)) J107
    refine w_callV (as := [.int (nI (dg (c / 2 ^ 4 % 16)))]) (st := []) d_MO_putPoint_107 yM_MO_put l_MO_208 vM_MO_put kx7 rfl rfl rfl rfl (m_MO_put w7) (by decide) (by decide) (by decide) (by decide) (Nat.le_of_ble_eq_true rfl) ?_
    rintro _ g8 ⟨rfl, w8, o8⟩
    refine w_eq (st' := []) rfl ?_
    have kx8 := w8.1
    refine w_iload_n d_MO_putPoint_110 rfl ?_
    refine w_iconst (v := nI 4) d_MO_putPoint_111 (by decide) ?_
    refine w_isub d_MO_putPoint_112 ?_
    refine w_topi (y := nI 0) (by decide) ?_
    refine w_istore_n d_MO_putPoint_113 (by decide) ?_
    refine w_pl (pl' := [some (.ref 57), some (.int (nI c)), some (.int (nI 0)), some (.int (nI (c / 2 ^ 4 % 16)))]) rfl ?_
    refine w_goto (tgt := 75) d_MO_putPoint_114 rfl ?_
    refine w_iload_n d_MO_putPoint_75 rfl ?_
    refine w_if_lt (tgt := 117) d_MO_putPoint_76 rfl (fun z => absurd z (by decide)) (fun _ => ?_)
    refine w_iload_n d_MO_putPoint_79 rfl ?_
    refine w_iload_n d_MO_putPoint_80 rfl ?_
    refine w_ishr d_MO_putPoint_81 ?_
    refine w_topi (y := nI (c / 2 ^ 0)) (pk_shrN (by omega) _ 0 (by decide)) ?_
    refine w_bipush (v := nI 15) d_MO_putPoint_82 (by decide) ?_
    refine w_iand d_MO_putPoint_84 ?_
    refine w_topi (y := nI (c / 2 ^ 0 % 16)) (pk_andN (m := nI 15) (by omega) 4 (by decide)) ?_
    refine w_istore_n d_MO_putPoint_85 (by decide) ?_
    refine w_pl (pl' := [some (.ref 57), some (.int (nI c)), some (.int (nI 0)), some (.int (nI (c / 2 ^ 0 % 16)))]) rfl ?_
    refine w_aload_n d_MO_putPoint_86 rfl rfl ?_
    refine w_iload_n d_MO_putPoint_87 rfl ?_
    refine w_bipush (v := nI 10) d_MO_putPoint_88 (by decide) ?_
    suffices J107 : WP X M_MO_putPoint (wR 1 0 0) 0 EN 0 0 107 [some (.ref 57), some (.int (nI c)), some (.int (nI 0)), some (.int (nI (c / 2 ^ 0 % 16)))] [.int (nI (dg (c / 2 ^ 0 % 16))), .ref 57] g8 by
      refine w_icmp_ge (tgt := 100) d_MO_putPoint_90 rfl (fun c90 => ?_) (fun c90 => ?_)
      · have c90 := (nI_leI (a := 10) (b := c / 2 ^ 0 % 16) (by omega) (by omega)).mp c90
        refine w_bipush (v := nI 97) d_MO_putPoint_100 (by decide) ?_
        refine w_iload_n d_MO_putPoint_102 rfl ?_
        refine w_iadd d_MO_putPoint_103 ?_
        refine w_topi (y := nI (97 + c / 2 ^ 0 % 16)) (nI_add _ _) ?_
        refine w_bipush (v := nI 10) d_MO_putPoint_104 (by decide) ?_
        refine w_isub d_MO_putPoint_106 ?_
        refine w_topi (y := nI (97 + c / 2 ^ 0 % 16 - 10)) (pk_sub (by omega)) ?_
        exact w_topi (congrArg nI (show _ = dg (c / 2 ^ 0 % 16) from (if_neg (by omega)).symm)) J107
      · have c90 : c / 2 ^ 0 % 16 < 10 := Nat.not_le.mp (fun z => c90 ((nI_leI (a := 10) (b := c / 2 ^ 0 % 16) (by omega) (by omega)).mpr z))
        refine w_bipush (v := nI 48) d_MO_putPoint_93 (by decide) ?_
        refine w_iload_n d_MO_putPoint_95 rfl ?_
        refine w_iadd d_MO_putPoint_96 ?_
        refine w_topi (y := nI (48 + c / 2 ^ 0 % 16)) (nI_add _ _) ?_
        refine w_goto (tgt := 107) d_MO_putPoint_97 rfl ?_
        exact w_topi (congrArg nI (show _ = dg (c / 2 ^ 0 % 16) from (if_pos c90).symm)) J107
    refine w_callV (as := [.int (nI (dg (c / 2 ^ 0 % 16)))]) (st := []) d_MO_putPoint_107 yM_MO_put l_MO_208 vM_MO_put kx8 rfl rfl rfl rfl (m_MO_put w8) (by decide) (by decide) (by decide) (by decide) (Nat.le_of_ble_eq_true rfl) ?_
    rintro _ g9 ⟨rfl, w9, o9⟩
    refine w_eq (st' := []) rfl ?_
    have kx9 := w9.1
    refine w_iload_n d_MO_putPoint_110 rfl ?_
    refine w_iconst (v := nI 4) d_MO_putPoint_111 (by decide) ?_
    refine w_isub d_MO_putPoint_112 ?_
    refine w_topi (y := (-4)) (by decide) ?_
    refine w_istore_n d_MO_putPoint_113 (by decide) ?_
    refine w_pl (pl' := [some (.ref 57), some (.int (nI c)), some (.int ((-4))), some (.int (nI (c / 2 ^ 0 % 16)))]) rfl ?_
    refine w_goto (tgt := 75) d_MO_putPoint_114 rfl ?_
    refine w_iload_n d_MO_putPoint_75 rfl ?_
    refine w_if_lt (tgt := 117) d_MO_putPoint_76 rfl (fun _ => ?_) (fun z => absurd (by decide) z)
    refine w_aload_n d_MO_putPoint_117 rfl rfl ?_
    refine w_bipush (v := nI 125) d_MO_putPoint_118 (by decide) ?_
    refine w_callV (as := [.int (nI 125)]) (st := []) d_MO_putPoint_120 yM_MO_put l_MO_208 vM_MO_put kx9 rfl rfl rfl rfl (m_MO_put w9) (by decide) (by decide) (by decide) (by decide) (Nat.le_of_ble_eq_true rfl) ?_
    rintro _ g10 ⟨rfl, w10, o10⟩
    refine w_eq (st' := []) rfl ?_
    have kx10 := w10.1
    rw [← hEN]
    refine w_vret d_MO_putPoint_123 rfl ?_
    have hxe : hx c = [dg (c / 2 ^ 20 % 16), dg (c / 2 ^ 16 % 16), dg (c / 2 ^ 12 % 16), dg (c / 2 ^ 8 % 16), dg (c / 2 ^ 4 % 16), dg (c / 2 ^ 0 % 16)] := by unfold hx; rw [if_pos z20]
    refine ⟨rfl, ?_, (((((((((o1.tr o2).tr o3).tr o4).tr o5).tr o6).tr o7).tr o8).tr o9).tr o10)⟩
    unfold cT
    rw [if_pos hout, hxe]
    have q := w10
    simp only [List.append_assoc, List.cons_append, List.nil_append] at q ⊢
    exact q
  · have z20 : c / 2 ^ 20 = 0 := by
      rcases Nat.eq_zero_or_pos (c / 2 ^ 20) with z | z
      · exact z
      · exact absurd c65 (nI_ne0 z (by omega))
    refine w_iload_n d_MO_putPoint_68 rfl ?_
    refine w_iconst (v := nI 4) d_MO_putPoint_69 (by decide) ?_
    refine w_isub d_MO_putPoint_70 ?_
    refine w_topi (y := nI 16) (by decide) ?_
    refine w_istore_n d_MO_putPoint_71 (by decide) ?_
    refine w_pl (pl' := [some (.ref 57), some (.int (nI c)), some (.int (nI 16)), none]) rfl ?_
    refine w_goto (tgt := 58) d_MO_putPoint_72 rfl ?_
    refine w_iload_n d_MO_putPoint_58 rfl ?_
    refine w_if_le (tgt := 75) d_MO_putPoint_59 rfl (fun z => absurd z (by decide)) (fun _ => ?_)
    refine w_iload_n d_MO_putPoint_62 rfl ?_
    refine w_iload_n d_MO_putPoint_63 rfl ?_
    refine w_ishr d_MO_putPoint_64 ?_
    refine w_topi (y := nI (c / 2 ^ 16)) (pk_shrN (by omega) _ 16 (by decide)) ?_
    refine w_if_ne (tgt := 75) d_MO_putPoint_65 rfl (fun c65 => ?_) (fun c65 => ?_)
    · have z16 : ¬ c / 2 ^ 16 = 0 := fun z => c65 (by rw [z]; decide)
      refine w_iload_n d_MO_putPoint_75 rfl ?_
      refine w_if_lt (tgt := 117) d_MO_putPoint_76 rfl (fun z => absurd z (by decide)) (fun _ => ?_)
      refine w_iload_n d_MO_putPoint_79 rfl ?_
      refine w_iload_n d_MO_putPoint_80 rfl ?_
      refine w_ishr d_MO_putPoint_81 ?_
      refine w_topi (y := nI (c / 2 ^ 16)) (pk_shrN (by omega) _ 16 (by decide)) ?_
      refine w_bipush (v := nI 15) d_MO_putPoint_82 (by decide) ?_
      refine w_iand d_MO_putPoint_84 ?_
      refine w_topi (y := nI (c / 2 ^ 16 % 16)) (pk_andN (m := nI 15) (by omega) 4 (by decide)) ?_
      refine w_istore_n d_MO_putPoint_85 (by decide) ?_
      refine w_pl (pl' := [some (.ref 57), some (.int (nI c)), some (.int (nI 16)), some (.int (nI (c / 2 ^ 16 % 16)))]) rfl ?_
      refine w_aload_n d_MO_putPoint_86 rfl rfl ?_
      refine w_iload_n d_MO_putPoint_87 rfl ?_
      refine w_bipush (v := nI 10) d_MO_putPoint_88 (by decide) ?_
      suffices J107 : WP X M_MO_putPoint (wR 1 0 0) 0 EN 0 0 107 [some (.ref 57), some (.int (nI c)), some (.int (nI 16)), some (.int (nI (c / 2 ^ 16 % 16)))] [.int (nI (dg (c / 2 ^ 16 % 16))), .ref 57] g3 by
        refine w_icmp_ge (tgt := 100) d_MO_putPoint_90 rfl (fun c90 => ?_) (fun c90 => ?_)
        · have c90 := (nI_leI (a := 10) (b := c / 2 ^ 16 % 16) (by omega) (by omega)).mp c90
          refine w_bipush (v := nI 97) d_MO_putPoint_100 (by decide) ?_
          refine w_iload_n d_MO_putPoint_102 rfl ?_
          refine w_iadd d_MO_putPoint_103 ?_
          refine w_topi (y := nI (97 + c / 2 ^ 16 % 16)) (nI_add _ _) ?_
          refine w_bipush (v := nI 10) d_MO_putPoint_104 (by decide) ?_
          refine w_isub d_MO_putPoint_106 ?_
          refine w_topi (y := nI (97 + c / 2 ^ 16 % 16 - 10)) (pk_sub (by omega)) ?_
          exact w_topi (congrArg nI (show _ = dg (c / 2 ^ 16 % 16) from (if_neg (by omega)).symm)) J107
        · have c90 : c / 2 ^ 16 % 16 < 10 := Nat.not_le.mp (fun z => c90 ((nI_leI (a := 10) (b := c / 2 ^ 16 % 16) (by omega) (by omega)).mpr z))
          refine w_bipush (v := nI 48) d_MO_putPoint_93 (by decide) ?_
          refine w_iload_n d_MO_putPoint_95 rfl ?_
          refine w_iadd d_MO_putPoint_96 ?_
          refine w_topi (y := nI (48 + c / 2 ^ 16 % 16)) (nI_add _ _) ?_
          refine w_goto (tgt := 107) d_MO_putPoint_97 rfl ?_
          exact w_topi (congrArg nI (show _ = dg (c / 2 ^ 16 % 16) from (if_pos c90).symm)) J107
      refine w_callV (as := [.int (nI (dg (c / 2 ^ 16 % 16)))]) (st := []) d_MO_putPoint_107 yM_MO_put l_MO_208 vM_MO_put kx3 rfl rfl rfl rfl (m_MO_put w3) (by decide) (by decide) (by decide) (by decide) (Nat.le_of_ble_eq_true rfl) ?_
      rintro _ g4 ⟨rfl, w4, o4⟩
      refine w_eq (st' := []) rfl ?_
      have kx4 := w4.1
      refine w_iload_n d_MO_putPoint_110 rfl ?_
      refine w_iconst (v := nI 4) d_MO_putPoint_111 (by decide) ?_
      refine w_isub d_MO_putPoint_112 ?_
      refine w_topi (y := nI 12) (by decide) ?_
      refine w_istore_n d_MO_putPoint_113 (by decide) ?_
      refine w_pl (pl' := [some (.ref 57), some (.int (nI c)), some (.int (nI 12)), some (.int (nI (c / 2 ^ 16 % 16)))]) rfl ?_
      refine w_goto (tgt := 75) d_MO_putPoint_114 rfl ?_
      refine w_iload_n d_MO_putPoint_75 rfl ?_
      refine w_if_lt (tgt := 117) d_MO_putPoint_76 rfl (fun z => absurd z (by decide)) (fun _ => ?_)
      refine w_iload_n d_MO_putPoint_79 rfl ?_
      refine w_iload_n d_MO_putPoint_80 rfl ?_
      refine w_ishr d_MO_putPoint_81 ?_
      refine w_topi (y := nI (c / 2 ^ 12)) (pk_shrN (by omega) _ 12 (by decide)) ?_
      refine w_bipush (v := nI 15) d_MO_putPoint_82 (by decide) ?_
      refine w_iand d_MO_putPoint_84 ?_
      refine w_topi (y := nI (c / 2 ^ 12 % 16)) (pk_andN (m := nI 15) (by omega) 4 (by decide)) ?_
      refine w_istore_n d_MO_putPoint_85 (by decide) ?_
      refine w_pl (pl' := [some (.ref 57), some (.int (nI c)), some (.int (nI 12)), some (.int (nI (c / 2 ^ 12 % 16)))]) rfl ?_
      refine w_aload_n d_MO_putPoint_86 rfl rfl ?_
      refine w_iload_n d_MO_putPoint_87 rfl ?_
      refine w_bipush (v := nI 10) d_MO_putPoint_88 (by decide) ?_
      suffices J107 : WP X M_MO_putPoint (wR 1 0 0) 0 EN 0 0 107 [some (.ref 57), some (.int (nI c)), some (.int (nI 12)), some (.int (nI (c / 2 ^ 12 % 16)))] [.int (nI (dg (c / 2 ^ 12 % 16))), .ref 57] g4 by
        refine w_icmp_ge (tgt := 100) d_MO_putPoint_90 rfl (fun c90 => ?_) (fun c90 => ?_)
        · have c90 := (nI_leI (a := 10) (b := c / 2 ^ 12 % 16) (by omega) (by omega)).mp c90
          refine w_bipush (v := nI 97) d_MO_putPoint_100 (by decide) ?_
          refine w_iload_n d_MO_putPoint_102 rfl ?_
          refine w_iadd d_MO_putPoint_103 ?_
          refine w_topi (y := nI (97 + c / 2 ^ 12 % 16)) (nI_add _ _) ?_
          refine w_bipush (v := nI 10) d_MO_putPoint_104 (by decide) ?_
          refine w_isub d_MO_putPoint_106 ?_
          refine w_topi (y := nI (97 + c / 2 ^ 12 % 16 - 10)) (pk_sub (by omega)) ?_
          exact w_topi (congrArg nI (show _ = dg (c / 2 ^ 12 % 16) from (if_neg (by omega)).symm)) J107
        · have c90 : c / 2 ^ 12 % 16 < 10 := Nat.not_le.mp (fun z => c90 ((nI_leI (a := 10) (b := c / 2 ^ 12 % 16) (by omega) (by omega)).mpr z))
          refine w_bipush (v := nI 48) d_MO_putPoint_93 (by decide) ?_
          refine w_iload_n d_MO_putPoint_95 rfl ?_
          refine w_iadd d_MO_putPoint_96 ?_
          refine w_topi (y := nI (48 + c / 2 ^ 12 % 16)) (nI_add _ _) ?_
          refine w_goto (tgt := 107) d_MO_putPoint_97 rfl ?_
          exact w_topi (congrArg nI (show _ = dg (c / 2 ^ 12 % 16) from (if_pos c90).symm)) J107
      refine w_callV (as := [.int (nI (dg (c / 2 ^ 12 % 16)))]) (st := []) d_MO_putPoint_107 yM_MO_put l_MO_208 vM_MO_put kx4 rfl rfl rfl rfl (m_MO_put w4) (by decide) (by decide) (by decide) (by decide) (Nat.le_of_ble_eq_true rfl) ?_
      rintro _ g5 ⟨rfl, w5, o5⟩
      refine w_eq (st' := []) rfl ?_
      have kx5 := w5.1
      refine w_iload_n d_MO_putPoint_110 rfl ?_
      refine w_iconst (v := nI 4) d_MO_putPoint_111 (by decide) ?_
      refine w_isub d_MO_putPoint_112 ?_
      refine w_topi (y := nI 8) (by decide) ?_
      refine w_istore_n d_MO_putPoint_113 (by decide) ?_
      refine w_pl (pl' := [some (.ref 57), some (.int (nI c)), some (.int (nI 8)), some (.int (nI (c / 2 ^ 12 % 16)))]) rfl ?_
      refine w_goto (tgt := 75) d_MO_putPoint_114 rfl ?_
      refine w_iload_n d_MO_putPoint_75 rfl ?_
      refine w_if_lt (tgt := 117) d_MO_putPoint_76 rfl (fun z => absurd z (by decide)) (fun _ => ?_)
      refine w_iload_n d_MO_putPoint_79 rfl ?_
      refine w_iload_n d_MO_putPoint_80 rfl ?_
      refine w_ishr d_MO_putPoint_81 ?_
      refine w_topi (y := nI (c / 2 ^ 8)) (pk_shrN (by omega) _ 8 (by decide)) ?_
      refine w_bipush (v := nI 15) d_MO_putPoint_82 (by decide) ?_
      refine w_iand d_MO_putPoint_84 ?_
      refine w_topi (y := nI (c / 2 ^ 8 % 16)) (pk_andN (m := nI 15) (by omega) 4 (by decide)) ?_
      refine w_istore_n d_MO_putPoint_85 (by decide) ?_
      refine w_pl (pl' := [some (.ref 57), some (.int (nI c)), some (.int (nI 8)), some (.int (nI (c / 2 ^ 8 % 16)))]) rfl ?_
      refine w_aload_n d_MO_putPoint_86 rfl rfl ?_
      refine w_iload_n d_MO_putPoint_87 rfl ?_
      refine w_bipush (v := nI 10) d_MO_putPoint_88 (by decide) ?_
      suffices J107 : WP X M_MO_putPoint (wR 1 0 0) 0 EN 0 0 107 [some (.ref 57), some (.int (nI c)), some (.int (nI 8)), some (.int (nI (c / 2 ^ 8 % 16)))] [.int (nI (dg (c / 2 ^ 8 % 16))), .ref 57] g5 by
        refine w_icmp_ge (tgt := 100) d_MO_putPoint_90 rfl (fun c90 => ?_) (fun c90 => ?_)
        · have c90 := (nI_leI (a := 10) (b := c / 2 ^ 8 % 16) (by omega) (by omega)).mp c90
          refine w_bipush (v := nI 97) d_MO_putPoint_100 (by decide) ?_
          refine w_iload_n d_MO_putPoint_102 rfl ?_
          refine w_iadd d_MO_putPoint_103 ?_
          refine w_topi (y := nI (97 + c / 2 ^ 8 % 16)) (nI_add _ _) ?_
          refine w_bipush (v := nI 10) d_MO_putPoint_104 (by decide) ?_
          refine w_isub d_MO_putPoint_106 ?_
          refine w_topi (y := nI (97 + c / 2 ^ 8 % 16 - 10)) (pk_sub (by omega)) ?_
          exact w_topi (congrArg nI (show _ = dg (c / 2 ^ 8 % 16) from (if_neg (by omega)).symm)) J107
        · have c90 : c / 2 ^ 8 % 16 < 10 := Nat.not_le.mp (fun z => c90 ((nI_leI (a := 10) (b := c / 2 ^ 8 % 16) (by omega) (by omega)).mpr z))
          refine w_bipush (v := nI 48) d_MO_putPoint_93 (by decide) ?_
          refine w_iload_n d_MO_putPoint_95 rfl ?_
          refine w_iadd d_MO_putPoint_96 ?_
          refine w_topi (y := nI (48 + c / 2 ^ 8 % 16)) (nI_add _ _) ?_
          refine w_goto (tgt := 107) d_MO_putPoint_97 rfl ?_
          exact w_topi (congrArg nI (show _ = dg (c / 2 ^ 8 % 16) from (if_pos c90).symm)) J107
      refine w_callV (as := [.int (nI (dg (c / 2 ^ 8 % 16)))]) (st := []) d_MO_putPoint_107 yM_MO_put l_MO_208 vM_MO_put kx5 rfl rfl rfl rfl (m_MO_put w5) (by decide) (by decide) (by decide) (by decide) (Nat.le_of_ble_eq_true rfl) ?_
      rintro _ g6 ⟨rfl, w6, o6⟩
      refine w_eq (st' := []) rfl ?_
      have kx6 := w6.1
      refine w_iload_n d_MO_putPoint_110 rfl ?_
      refine w_iconst (v := nI 4) d_MO_putPoint_111 (by decide) ?_
      refine w_isub d_MO_putPoint_112 ?_
      refine w_topi (y := nI 4) (by decide) ?_
      refine w_istore_n d_MO_putPoint_113 (by decide) ?_
      refine w_pl (pl' := [some (.ref 57), some (.int (nI c)), some (.int (nI 4)), some (.int (nI (c / 2 ^ 8 % 16)))]) rfl ?_
      refine w_goto (tgt := 75) d_MO_putPoint_114 rfl ?_
      refine w_iload_n d_MO_putPoint_75 rfl ?_
      refine w_if_lt (tgt := 117) d_MO_putPoint_76 rfl (fun z => absurd z (by decide)) (fun _ => ?_)
      refine w_iload_n d_MO_putPoint_79 rfl ?_
      refine w_iload_n d_MO_putPoint_80 rfl ?_
      refine w_ishr d_MO_putPoint_81 ?_
      refine w_topi (y := nI (c / 2 ^ 4)) (pk_shrN (by omega) _ 4 (by decide)) ?_
      refine w_bipush (v := nI 15) d_MO_putPoint_82 (by decide) ?_
      refine w_iand d_MO_putPoint_84 ?_
      refine w_topi (y := nI (c / 2 ^ 4 % 16)) (pk_andN (m := nI 15) (by omega) 4 (by decide)) ?_
      refine w_istore_n d_MO_putPoint_85 (by decide) ?_
      refine w_pl (pl' := [some (.ref 57), some (.int (nI c)), some (.int (nI 4)), some (.int (nI (c / 2 ^ 4 % 16)))]) rfl ?_
      refine w_aload_n d_MO_putPoint_86 rfl rfl ?_
      refine w_iload_n d_MO_putPoint_87 rfl ?_
      refine w_bipush (v := nI 10) d_MO_putPoint_88 (by decide) ?_
      suffices J107 : WP X M_MO_putPoint (wR 1 0 0) 0 EN 0 0 107 [some (.ref 57), some (.int (nI c)), some (.int (nI 4)), some (.int (nI (c / 2 ^ 4 % 16)))] [.int (nI (dg (c / 2 ^ 4 % 16))), .ref 57] g6 by
        refine w_icmp_ge (tgt := 100) d_MO_putPoint_90 rfl (fun c90 => ?_) (fun c90 => ?_)
        · have c90 := (nI_leI (a := 10) (b := c / 2 ^ 4 % 16) (by omega) (by omega)).mp c90
          refine w_bipush (v := nI 97) d_MO_putPoint_100 (by decide) ?_
          refine w_iload_n d_MO_putPoint_102 rfl ?_
          refine w_iadd d_MO_putPoint_103 ?_
          refine w_topi (y := nI (97 + c / 2 ^ 4 % 16)) (nI_add _ _) ?_
          refine w_bipush (v := nI 10) d_MO_putPoint_104 (by decide) ?_
          refine w_isub d_MO_putPoint_106 ?_
          refine w_topi (y := nI (97 + c / 2 ^ 4 % 16 - 10)) (pk_sub (by omega)) ?_
          exact w_topi (congrArg nI (show _ = dg (c / 2 ^ 4 % 16) from (if_neg (by omega)).symm)) J107
        · have c90 : c / 2 ^ 4 % 16 < 10 := Nat.not_le.mp (fun z => c90 ((nI_leI (a := 10) (b := c / 2 ^ 4 % 16) (by omega) (by omega)).mpr z))
          refine w_bipush (v := nI 48) d_MO_putPoint_93 (by decide) ?_
          refine w_iload_n d_MO_putPoint_95 rfl ?_
          refine w_iadd d_MO_putPoint_96 ?_
          refine w_topi (y := nI (48 + c / 2 ^ 4 % 16)) (nI_add _ _) ?_
          refine w_goto (tgt := 107) d_MO_putPoint_97 rfl ?_
          exact w_topi (congrArg nI (show _ = dg (c / 2 ^ 4 % 16) from (if_pos c90).symm)) J107
      refine w_callV (as := [.int (nI (dg (c / 2 ^ 4 % 16)))]) (st := []) d_MO_putPoint_107 yM_MO_put l_MO_208 vM_MO_put kx6 rfl rfl rfl rfl (m_MO_put w6) (by decide) (by decide) (by decide) (by decide) (Nat.le_of_ble_eq_true rfl) ?_
      rintro _ g7 ⟨rfl, w7, o7⟩
      refine w_eq (st' := []) rfl ?_
      have kx7 := w7.1
      refine w_iload_n d_MO_putPoint_110 rfl ?_
      refine w_iconst (v := nI 4) d_MO_putPoint_111 (by decide) ?_
      refine w_isub d_MO_putPoint_112 ?_
      refine w_topi (y := nI 0) (by decide) ?_
      refine w_istore_n d_MO_putPoint_113 (by decide) ?_
      refine w_pl (pl' := [some (.ref 57), some (.int (nI c)), some (.int (nI 0)), some (.int (nI (c / 2 ^ 4 % 16)))]) rfl ?_
      refine w_goto (tgt := 75) d_MO_putPoint_114 rfl ?_
      refine w_iload_n d_MO_putPoint_75 rfl ?_
      refine w_if_lt (tgt := 117) d_MO_putPoint_76 rfl (fun z => absurd z (by decide)) (fun _ => ?_)
      refine w_iload_n d_MO_putPoint_79 rfl ?_
      refine w_iload_n d_MO_putPoint_80 rfl ?_
      refine w_ishr d_MO_putPoint_81 ?_
      refine w_topi (y := nI (c / 2 ^ 0)) (pk_shrN (by omega) _ 0 (by decide)) ?_
      refine w_bipush (v := nI 15) d_MO_putPoint_82 (by decide) ?_
      refine w_iand d_MO_putPoint_84 ?_
      refine w_topi (y := nI (c / 2 ^ 0 % 16)) (pk_andN (m := nI 15) (by omega) 4 (by decide)) ?_
      refine w_istore_n d_MO_putPoint_85 (by decide) ?_
      refine w_pl (pl' := [some (.ref 57), some (.int (nI c)), some (.int (nI 0)), some (.int (nI (c / 2 ^ 0 % 16)))]) rfl ?_
      refine w_aload_n d_MO_putPoint_86 rfl rfl ?_
      refine w_iload_n d_MO_putPoint_87 rfl ?_
      refine w_bipush (v := nI 10) d_MO_putPoint_88 (by decide) ?_
      suffices J107 : WP X M_MO_putPoint (wR 1 0 0) 0 EN 0 0 107 [some (.ref 57), some (.int (nI c)), some (.int (nI 0)), some (.int (nI (c / 2 ^ 0 % 16)))] [.int (nI (dg (c / 2 ^ 0 % 16))), .ref 57] g7 by
        refine w_icmp_ge (tgt := 100) d_MO_putPoint_90 rfl (fun c90 => ?_) (fun c90 => ?_)
        · have c90 := (nI_leI (a := 10) (b := c / 2 ^ 0 % 16) (by omega) (by omega)).mp c90
          refine w_bipush (v := nI 97) d_MO_putPoint_100 (by decide) ?_
          refine w_iload_n d_MO_putPoint_102 rfl ?_
          refine w_iadd d_MO_putPoint_103 ?_
          refine w_topi (y := nI (97 + c / 2 ^ 0 % 16)) (nI_add _ _) ?_
          refine w_bipush (v := nI 10) d_MO_putPoint_104 (by decide) ?_
          refine w_isub d_MO_putPoint_106 ?_
          refine w_topi (y := nI (97 + c / 2 ^ 0 % 16 - 10)) (pk_sub (by omega)) ?_
          exact w_topi (congrArg nI (show _ = dg (c / 2 ^ 0 % 16) from (if_neg (by omega)).symm)) J107
        · have c90 : c / 2 ^ 0 % 16 < 10 := Nat.not_le.mp (fun z => c90 ((nI_leI (a := 10) (b := c / 2 ^ 0 % 16) (by omega) (by omega)).mpr z))
          refine w_bipush (v := nI 48) d_MO_putPoint_93 (by decide) ?_
          refine w_iload_n d_MO_putPoint_95 rfl ?_
          refine w_iadd d_MO_putPoint_96 ?_
          refine w_topi (y := nI (48 + c / 2 ^ 0 % 16)) (nI_add _ _) ?_
          refine w_goto (tgt := 107) d_MO_putPoint_97 rfl ?_
          exact w_topi (congrArg nI (show _ = dg (c / 2 ^ 0 % 16) from (if_pos c90).symm)) J107
      refine w_callV (as := [.int (nI (dg (c / 2 ^ 0 % 16)))]) (st := []) d_MO_putPoint_107 yM_MO_put l_MO_208 vM_MO_put kx7 rfl rfl rfl rfl (m_MO_put w7) (by decide) (by decide) (by decide) (by decide) (Nat.le_of_ble_eq_true rfl) ?_
      rintro _ g8 ⟨rfl, w8, o8⟩
      refine w_eq (st' := []) rfl ?_
      have kx8 := w8.1
      refine w_iload_n d_MO_putPoint_110 rfl ?_
      refine w_iconst (v := nI 4) d_MO_putPoint_111 (by decide) ?_
      refine w_isub d_MO_putPoint_112 ?_
      refine w_topi (y := (-4)) (by decide) ?_
      refine w_istore_n d_MO_putPoint_113 (by decide) ?_
      refine w_pl (pl' := [some (.ref 57), some (.int (nI c)), some (.int ((-4))), some (.int (nI (c / 2 ^ 0 % 16)))]) rfl ?_
      refine w_goto (tgt := 75) d_MO_putPoint_114 rfl ?_
      refine w_iload_n d_MO_putPoint_75 rfl ?_
      refine w_if_lt (tgt := 117) d_MO_putPoint_76 rfl (fun _ => ?_) (fun z => absurd (by decide) z)
      refine w_aload_n d_MO_putPoint_117 rfl rfl ?_
      refine w_bipush (v := nI 125) d_MO_putPoint_118 (by decide) ?_
      refine w_callV (as := [.int (nI 125)]) (st := []) d_MO_putPoint_120 yM_MO_put l_MO_208 vM_MO_put kx8 rfl rfl rfl rfl (m_MO_put w8) (by decide) (by decide) (by decide) (by decide) (Nat.le_of_ble_eq_true rfl) ?_
      rintro _ g9 ⟨rfl, w9, o9⟩
      refine w_eq (st' := []) rfl ?_
      have kx9 := w9.1
      rw [← hEN]
      refine w_vret d_MO_putPoint_123 rfl ?_
      have hxe : hx c = [dg (c / 2 ^ 16 % 16), dg (c / 2 ^ 12 % 16), dg (c / 2 ^ 8 % 16), dg (c / 2 ^ 4 % 16), dg (c / 2 ^ 0 % 16)] := by unfold hx; rw [if_neg (fun q => q z20), if_pos z16]
      refine ⟨rfl, ?_, ((((((((o1.tr o2).tr o3).tr o4).tr o5).tr o6).tr o7).tr o8).tr o9)⟩
      unfold cT
      rw [if_pos hout, hxe]
      have q := w9
      simp only [List.append_assoc, List.cons_append, List.nil_append] at q ⊢
      exact q
    · have z16 : c / 2 ^ 16 = 0 := by
        rcases Nat.eq_zero_or_pos (c / 2 ^ 16) with z | z
        · exact z
        · exact absurd c65 (nI_ne0 z (by omega))
      refine w_iload_n d_MO_putPoint_68 rfl ?_
      refine w_iconst (v := nI 4) d_MO_putPoint_69 (by decide) ?_
      refine w_isub d_MO_putPoint_70 ?_
      refine w_topi (y := nI 12) (by decide) ?_
      refine w_istore_n d_MO_putPoint_71 (by decide) ?_
      refine w_pl (pl' := [some (.ref 57), some (.int (nI c)), some (.int (nI 12)), none]) rfl ?_
      refine w_goto (tgt := 58) d_MO_putPoint_72 rfl ?_
      refine w_iload_n d_MO_putPoint_58 rfl ?_
      refine w_if_le (tgt := 75) d_MO_putPoint_59 rfl (fun z => absurd z (by decide)) (fun _ => ?_)
      refine w_iload_n d_MO_putPoint_62 rfl ?_
      refine w_iload_n d_MO_putPoint_63 rfl ?_
      refine w_ishr d_MO_putPoint_64 ?_
      refine w_topi (y := nI (c / 2 ^ 12)) (pk_shrN (by omega) _ 12 (by decide)) ?_
      refine w_if_ne (tgt := 75) d_MO_putPoint_65 rfl (fun c65 => ?_) (fun c65 => ?_)
      · have z12 : ¬ c / 2 ^ 12 = 0 := fun z => c65 (by rw [z]; decide)
        refine w_iload_n d_MO_putPoint_75 rfl ?_
        refine w_if_lt (tgt := 117) d_MO_putPoint_76 rfl (fun z => absurd z (by decide)) (fun _ => ?_)
        refine w_iload_n d_MO_putPoint_79 rfl ?_
        refine w_iload_n d_MO_putPoint_80 rfl ?_
        refine w_ishr d_MO_putPoint_81 ?_
        refine w_topi (y := nI (c / 2 ^ 12)) (pk_shrN (by omega) _ 12 (by decide)) ?_
        refine w_bipush (v := nI 15) d_MO_putPoint_82 (by decide) ?_
        refine w_iand d_MO_putPoint_84 ?_
        refine w_topi (y := nI (c / 2 ^ 12 % 16)) (pk_andN (m := nI 15) (by omega) 4 (by decide)) ?_
        refine w_istore_n d_MO_putPoint_85 (by decide) ?_
        refine w_pl (pl' := [some (.ref 57), some (.int (nI c)), some (.int (nI 12)), some (.int (nI (c / 2 ^ 12 % 16)))]) rfl ?_
        refine w_aload_n d_MO_putPoint_86 rfl rfl ?_
        refine w_iload_n d_MO_putPoint_87 rfl ?_
        refine w_bipush (v := nI 10) d_MO_putPoint_88 (by decide) ?_
        suffices J107 : WP X M_MO_putPoint (wR 1 0 0) 0 EN 0 0 107 [some (.ref 57), some (.int (nI c)), some (.int (nI 12)), some (.int (nI (c / 2 ^ 12 % 16)))] [.int (nI (dg (c / 2 ^ 12 % 16))), .ref 57] g3 by
          refine w_icmp_ge (tgt := 100) d_MO_putPoint_90 rfl (fun c90 => ?_) (fun c90 => ?_)
          · have c90 := (nI_leI (a := 10) (b := c / 2 ^ 12 % 16) (by omega) (by omega)).mp c90
            refine w_bipush (v := nI 97) d_MO_putPoint_100 (by decide) ?_
            refine w_iload_n d_MO_putPoint_102 rfl ?_
            refine w_iadd d_MO_putPoint_103 ?_
            refine w_topi (y := nI (97 + c / 2 ^ 12 % 16)) (nI_add _ _) ?_
            refine w_bipush (v := nI 10) d_MO_putPoint_104 (by decide) ?_
            refine w_isub d_MO_putPoint_106 ?_
            refine w_topi (y := nI (97 + c / 2 ^ 12 % 16 - 10)) (pk_sub (by omega)) ?_
            exact w_topi (congrArg nI (show _ = dg (c / 2 ^ 12 % 16) from (if_neg (by omega)).symm)) J107
          · have c90 : c / 2 ^ 12 % 16 < 10 := Nat.not_le.mp (fun z => c90 ((nI_leI (a := 10) (b := c / 2 ^ 12 % 16) (by omega) (by omega)).mpr z))
            refine w_bipush (v := nI 48) d_MO_putPoint_93 (by decide) ?_
            refine w_iload_n d_MO_putPoint_95 rfl ?_
            refine w_iadd d_MO_putPoint_96 ?_
            refine w_topi (y := nI (48 + c / 2 ^ 12 % 16)) (nI_add _ _) ?_
            refine w_goto (tgt := 107) d_MO_putPoint_97 rfl ?_
            exact w_topi (congrArg nI (show _ = dg (c / 2 ^ 12 % 16) from (if_pos c90).symm)) J107
        refine w_callV (as := [.int (nI (dg (c / 2 ^ 12 % 16)))]) (st := []) d_MO_putPoint_107 yM_MO_put l_MO_208 vM_MO_put kx3 rfl rfl rfl rfl (m_MO_put w3) (by decide) (by decide) (by decide) (by decide) (Nat.le_of_ble_eq_true rfl) ?_
        rintro _ g4 ⟨rfl, w4, o4⟩
        refine w_eq (st' := []) rfl ?_
        have kx4 := w4.1
        refine w_iload_n d_MO_putPoint_110 rfl ?_
        refine w_iconst (v := nI 4) d_MO_putPoint_111 (by decide) ?_
        refine w_isub d_MO_putPoint_112 ?_
        refine w_topi (y := nI 8) (by decide) ?_
        refine w_istore_n d_MO_putPoint_113 (by decide) ?_
        refine w_pl (pl' := [some (.ref 57), some (.int (nI c)), some (.int (nI 8)), some (.int (nI (c / 2 ^ 12 % 16)))]) rfl ?_
        refine w_goto (tgt := 75) d_MO_putPoint_114 rfl ?_
        refine w_iload_n d_MO_putPoint_75 rfl ?_
        refine w_if_lt (tgt := 117) d_MO_putPoint_76 rfl (fun z => absurd z (by decide)) (fun _ => ?_)
        refine w_iload_n d_MO_putPoint_79 rfl ?_
        refine w_iload_n d_MO_putPoint_80 rfl ?_
        refine w_ishr d_MO_putPoint_81 ?_
        refine w_topi (y := nI (c / 2 ^ 8)) (pk_shrN (by omega) _ 8 (by decide)) ?_
        refine w_bipush (v := nI 15) d_MO_putPoint_82 (by decide) ?_
        refine w_iand d_MO_putPoint_84 ?_
        refine w_topi (y := nI (c / 2 ^ 8 % 16)) (pk_andN (m := nI 15) (by omega) 4 (by decide)) ?_
        refine w_istore_n d_MO_putPoint_85 (by decide) ?_
        refine w_pl (pl' := [some (.ref 57), some (.int (nI c)), some (.int (nI 8)), some (.int (nI (c / 2 ^ 8 % 16)))]) rfl ?_
        refine w_aload_n d_MO_putPoint_86 rfl rfl ?_
        refine w_iload_n d_MO_putPoint_87 rfl ?_
        refine w_bipush (v := nI 10) d_MO_putPoint_88 (by decide) ?_
        suffices J107 : WP X M_MO_putPoint (wR 1 0 0) 0 EN 0 0 107 [some (.ref 57), some (.int (nI c)), some (.int (nI 8)), some (.int (nI (c / 2 ^ 8 % 16)))] [.int (nI (dg (c / 2 ^ 8 % 16))), .ref 57] g4 by
          refine w_icmp_ge (tgt := 100) d_MO_putPoint_90 rfl (fun c90 => ?_) (fun c90 => ?_)
          · have c90 := (nI_leI (a := 10) (b := c / 2 ^ 8 % 16) (by omega) (by omega)).mp c90
            refine w_bipush (v := nI 97) d_MO_putPoint_100 (by decide) ?_
            refine w_iload_n d_MO_putPoint_102 rfl ?_
            refine w_iadd d_MO_putPoint_103 ?_
            refine w_topi (y := nI (97 + c / 2 ^ 8 % 16)) (nI_add _ _) ?_
            refine w_bipush (v := nI 10) d_MO_putPoint_104 (by decide) ?_
            refine w_isub d_MO_putPoint_106 ?_
            refine w_topi (y := nI (97 + c / 2 ^ 8 % 16 - 10)) (pk_sub (by omega)) ?_
            exact w_topi (congrArg nI (show _ = dg (c / 2 ^ 8 % 16) from (if_neg (by omega)).symm)) J107
          · have c90 : c / 2 ^ 8 % 16 < 10 := Nat.not_le.mp (fun z => c90 ((nI_leI (a := 10) (b := c / 2 ^ 8 % 16) (by omega) (by omega)).mpr z))
            refine w_bipush (v := nI 48) d_MO_putPoint_93 (by decide) ?_
            refine w_iload_n d_MO_putPoint_95 rfl ?_
            refine w_iadd d_MO_putPoint_96 ?_
            refine w_topi (y := nI (48 + c / 2 ^ 8 % 16)) (nI_add _ _) ?_
            refine w_goto (tgt := 107) d_MO_putPoint_97 rfl ?_
            exact w_topi (congrArg nI (show _ = dg (c / 2 ^ 8 % 16) from (if_pos c90).symm)) J107
        refine w_callV (as := [.int (nI (dg (c / 2 ^ 8 % 16)))]) (st := []) d_MO_putPoint_107 yM_MO_put l_MO_208 vM_MO_put kx4 rfl rfl rfl rfl (m_MO_put w4) (by decide) (by decide) (by decide) (by decide) (Nat.le_of_ble_eq_true rfl) ?_
        rintro _ g5 ⟨rfl, w5, o5⟩
        refine w_eq (st' := []) rfl ?_
        have kx5 := w5.1
        refine w_iload_n d_MO_putPoint_110 rfl ?_
        refine w_iconst (v := nI 4) d_MO_putPoint_111 (by decide) ?_
        refine w_isub d_MO_putPoint_112 ?_
        refine w_topi (y := nI 4) (by decide) ?_
        refine w_istore_n d_MO_putPoint_113 (by decide) ?_
        refine w_pl (pl' := [some (.ref 57), some (.int (nI c)), some (.int (nI 4)), some (.int (nI (c / 2 ^ 8 % 16)))]) rfl ?_
        refine w_goto (tgt := 75) d_MO_putPoint_114 rfl ?_
        refine w_iload_n d_MO_putPoint_75 rfl ?_
        refine w_if_lt (tgt := 117) d_MO_putPoint_76 rfl (fun z => absurd z (by decide)) (fun _ => ?_)
        refine w_iload_n d_MO_putPoint_79 rfl ?_
        refine w_iload_n d_MO_putPoint_80 rfl ?_
        refine w_ishr d_MO_putPoint_81 ?_
        refine w_topi (y := nI (c / 2 ^ 4)) (pk_shrN (by omega) _ 4 (by decide)) ?_
        refine w_bipush (v := nI 15) d_MO_putPoint_82 (by decide) ?_
        refine w_iand d_MO_putPoint_84 ?_
        refine w_topi (y := nI (c / 2 ^ 4 % 16)) (pk_andN (m := nI 15) (by omega) 4 (by decide)) ?_
        refine w_istore_n d_MO_putPoint_85 (by decide) ?_
        refine w_pl (pl' := [some (.ref 57), some (.int (nI c)), some (.int (nI 4)), some (.int (nI (c / 2 ^ 4 % 16)))]) rfl ?_
        refine w_aload_n d_MO_putPoint_86 rfl rfl ?_
        refine w_iload_n d_MO_putPoint_87 rfl ?_
        refine w_bipush (v := nI 10) d_MO_putPoint_88 (by decide) ?_
        suffices J107 : WP X M_MO_putPoint (wR 1 0 0) 0 EN 0 0 107 [some (.ref 57), some (.int (nI c)), some (.int (nI 4)), some (.int (nI (c / 2 ^ 4 % 16)))] [.int (nI (dg (c / 2 ^ 4 % 16))), .ref 57] g5 by
          refine w_icmp_ge (tgt := 100) d_MO_putPoint_90 rfl (fun c90 => ?_) (fun c90 => ?_)
          · have c90 := (nI_leI (a := 10) (b := c / 2 ^ 4 % 16) (by omega) (by omega)).mp c90
            refine w_bipush (v := nI 97) d_MO_putPoint_100 (by decide) ?_
            refine w_iload_n d_MO_putPoint_102 rfl ?_
            refine w_iadd d_MO_putPoint_103 ?_
            refine w_topi (y := nI (97 + c / 2 ^ 4 % 16)) (nI_add _ _) ?_
            refine w_bipush (v := nI 10) d_MO_putPoint_104 (by decide) ?_
            refine w_isub d_MO_putPoint_106 ?_
            refine w_topi (y := nI (97 + c / 2 ^ 4 % 16 - 10)) (pk_sub (by omega)) ?_
            exact w_topi (congrArg nI (show _ = dg (c / 2 ^ 4 % 16) from (if_neg (by omega)).symm)) J107
          · have c90 : c / 2 ^ 4 % 16 < 10 := Nat.not_le.mp (fun z => c90 ((nI_leI (a := 10) (b := c / 2 ^ 4 % 16) (by omega) (by omega)).mpr z))
            refine w_bipush (v := nI 48) d_MO_putPoint_93 (by decide) ?_
            refine w_iload_n d_MO_putPoint_95 rfl ?_
            refine w_iadd d_MO_putPoint_96 ?_
            refine w_topi (y := nI (48 + c / 2 ^ 4 % 16)) (nI_add _ _) ?_
            refine w_goto (tgt := 107) d_MO_putPoint_97 rfl ?_
            exact w_topi (congrArg nI (show _ = dg (c / 2 ^ 4 % 16) from (if_pos c90).symm)) J107
        refine w_callV (as := [.int (nI (dg (c / 2 ^ 4 % 16)))]) (st := []) d_MO_putPoint_107 yM_MO_put l_MO_208 vM_MO_put kx5 rfl rfl rfl rfl (m_MO_put w5) (by decide) (by decide) (by decide) (by decide) (Nat.le_of_ble_eq_true rfl) ?_
        rintro _ g6 ⟨rfl, w6, o6⟩
        refine w_eq (st' := []) rfl ?_
        have kx6 := w6.1
        refine w_iload_n d_MO_putPoint_110 rfl ?_
        refine w_iconst (v := nI 4) d_MO_putPoint_111 (by decide) ?_
        refine w_isub d_MO_putPoint_112 ?_
        refine w_topi (y := nI 0) (by decide) ?_
        refine w_istore_n d_MO_putPoint_113 (by decide) ?_
        refine w_pl (pl' := [some (.ref 57), some (.int (nI c)), some (.int (nI 0)), some (.int (nI (c / 2 ^ 4 % 16)))]) rfl ?_
        refine w_goto (tgt := 75) d_MO_putPoint_114 rfl ?_
        refine w_iload_n d_MO_putPoint_75 rfl ?_
        refine w_if_lt (tgt := 117) d_MO_putPoint_76 rfl (fun z => absurd z (by decide)) (fun _ => ?_)
        refine w_iload_n d_MO_putPoint_79 rfl ?_
        refine w_iload_n d_MO_putPoint_80 rfl ?_
        refine w_ishr d_MO_putPoint_81 ?_
        refine w_topi (y := nI (c / 2 ^ 0)) (pk_shrN (by omega) _ 0 (by decide)) ?_
        refine w_bipush (v := nI 15) d_MO_putPoint_82 (by decide) ?_
        refine w_iand d_MO_putPoint_84 ?_
        refine w_topi (y := nI (c / 2 ^ 0 % 16)) (pk_andN (m := nI 15) (by omega) 4 (by decide)) ?_
        refine w_istore_n d_MO_putPoint_85 (by decide) ?_
        refine w_pl (pl' := [some (.ref 57), some (.int (nI c)), some (.int (nI 0)), some (.int (nI (c / 2 ^ 0 % 16)))]) rfl ?_
        refine w_aload_n d_MO_putPoint_86 rfl rfl ?_
        refine w_iload_n d_MO_putPoint_87 rfl ?_
        refine w_bipush (v := nI 10) d_MO_putPoint_88 (by decide) ?_
        suffices J107 : WP X M_MO_putPoint (wR 1 0 0) 0 EN 0 0 107 [some (.ref 57), some (.int (nI c)), some (.int (nI 0)), some (.int (nI (c / 2 ^ 0 % 16)))] [.int (nI (dg (c / 2 ^ 0 % 16))), .ref 57] g6 by
          refine w_icmp_ge (tgt := 100) d_MO_putPoint_90 rfl (fun c90 => ?_) (fun c90 => ?_)
          · have c90 := (nI_leI (a := 10) (b := c / 2 ^ 0 % 16) (by omega) (by omega)).mp c90
            refine w_bipush (v := nI 97) d_MO_putPoint_100 (by decide) ?_
            refine w_iload_n d_MO_putPoint_102 rfl ?_
            refine w_iadd d_MO_putPoint_103 ?_
            refine w_topi (y := nI (97 + c / 2 ^ 0 % 16)) (nI_add _ _) ?_
            refine w_bipush (v := nI 10) d_MO_putPoint_104 (by decide) ?_
            refine w_isub d_MO_putPoint_106 ?_
            refine w_topi (y := nI (97 + c / 2 ^ 0 % 16 - 10)) (pk_sub (by omega)) ?_
            exact w_topi (congrArg nI (show _ = dg (c / 2 ^ 0 % 16) from (if_neg (by omega)).symm)) J107
          · have c90 : c / 2 ^ 0 % 16 < 10 := Nat.not_le.mp (fun z => c90 ((nI_leI (a := 10) (b := c / 2 ^ 0 % 16) (by omega) (by omega)).mpr z))
            refine w_bipush (v := nI 48) d_MO_putPoint_93 (by decide) ?_
            refine w_iload_n d_MO_putPoint_95 rfl ?_
            refine w_iadd d_MO_putPoint_96 ?_
            refine w_topi (y := nI (48 + c / 2 ^ 0 % 16)) (nI_add _ _) ?_
            refine w_goto (tgt := 107) d_MO_putPoint_97 rfl ?_
            exact w_topi (congrArg nI (show _ = dg (c / 2 ^ 0 % 16) from (if_pos c90).symm)) J107
        refine w_callV (as := [.int (nI (dg (c / 2 ^ 0 % 16)))]) (st := []) d_MO_putPoint_107 yM_MO_put l_MO_208 vM_MO_put kx6 rfl rfl rfl rfl (m_MO_put w6) (by decide) (by decide) (by decide) (by decide) (Nat.le_of_ble_eq_true rfl) ?_
        rintro _ g7 ⟨rfl, w7, o7⟩
        refine w_eq (st' := []) rfl ?_
        have kx7 := w7.1
        refine w_iload_n d_MO_putPoint_110 rfl ?_
        refine w_iconst (v := nI 4) d_MO_putPoint_111 (by decide) ?_
        refine w_isub d_MO_putPoint_112 ?_
        refine w_topi (y := (-4)) (by decide) ?_
        refine w_istore_n d_MO_putPoint_113 (by decide) ?_
        refine w_pl (pl' := [some (.ref 57), some (.int (nI c)), some (.int ((-4))), some (.int (nI (c / 2 ^ 0 % 16)))]) rfl ?_
        refine w_goto (tgt := 75) d_MO_putPoint_114 rfl ?_
        refine w_iload_n d_MO_putPoint_75 rfl ?_
        refine w_if_lt (tgt := 117) d_MO_putPoint_76 rfl (fun _ => ?_) (fun z => absurd (by decide) z)
        refine w_aload_n d_MO_putPoint_117 rfl rfl ?_
        refine w_bipush (v := nI 125) d_MO_putPoint_118 (by decide) ?_
        refine w_callV (as := [.int (nI 125)]) (st := []) d_MO_putPoint_120 yM_MO_put l_MO_208 vM_MO_put kx7 rfl rfl rfl rfl (m_MO_put w7) (by decide) (by decide) (by decide) (by decide) (Nat.le_of_ble_eq_true rfl) ?_
        rintro _ g8 ⟨rfl, w8, o8⟩
        refine w_eq (st' := []) rfl ?_
        have kx8 := w8.1
        rw [← hEN]
        refine w_vret d_MO_putPoint_123 rfl ?_
        have hxe : hx c = [dg (c / 2 ^ 12 % 16), dg (c / 2 ^ 8 % 16), dg (c / 2 ^ 4 % 16), dg (c / 2 ^ 0 % 16)] := by unfold hx; rw [if_neg (fun q => q z20), if_neg (fun q => q z16), if_pos z12]
        refine ⟨rfl, ?_, (((((((o1.tr o2).tr o3).tr o4).tr o5).tr o6).tr o7).tr o8)⟩
        unfold cT
        rw [if_pos hout, hxe]
        have q := w8
        simp only [List.append_assoc, List.cons_append, List.nil_append] at q ⊢
        exact q
      · have z12 : c / 2 ^ 12 = 0 := by
          rcases Nat.eq_zero_or_pos (c / 2 ^ 12) with z | z
          · exact z
          · exact absurd c65 (nI_ne0 z (by omega))
        refine w_iload_n d_MO_putPoint_68 rfl ?_
        refine w_iconst (v := nI 4) d_MO_putPoint_69 (by decide) ?_
        refine w_isub d_MO_putPoint_70 ?_
        refine w_topi (y := nI 8) (by decide) ?_
        refine w_istore_n d_MO_putPoint_71 (by decide) ?_
        refine w_pl (pl' := [some (.ref 57), some (.int (nI c)), some (.int (nI 8)), none]) rfl ?_
        refine w_goto (tgt := 58) d_MO_putPoint_72 rfl ?_
        refine w_iload_n d_MO_putPoint_58 rfl ?_
        refine w_if_le (tgt := 75) d_MO_putPoint_59 rfl (fun z => absurd z (by decide)) (fun _ => ?_)
        refine w_iload_n d_MO_putPoint_62 rfl ?_
        refine w_iload_n d_MO_putPoint_63 rfl ?_
        refine w_ishr d_MO_putPoint_64 ?_
        refine w_topi (y := nI (c / 2 ^ 8)) (pk_shrN (by omega) _ 8 (by decide)) ?_
        refine w_if_ne (tgt := 75) d_MO_putPoint_65 rfl (fun c65 => ?_) (fun c65 => ?_)
        · have z8 : ¬ c / 2 ^ 8 = 0 := fun z => c65 (by rw [z]; decide)
          refine w_iload_n d_MO_putPoint_75 rfl ?_
          refine w_if_lt (tgt := 117) d_MO_putPoint_76 rfl (fun z => absurd z (by decide)) (fun _ => ?_)
          refine w_iload_n d_MO_putPoint_79 rfl ?_
          refine w_iload_n d_MO_putPoint_80 rfl ?_
          refine w_ishr d_MO_putPoint_81 ?_
          refine w_topi (y := nI (c / 2 ^ 8)) (pk_shrN (by omega) _ 8 (by decide)) ?_
          refine w_bipush (v := nI 15) d_MO_putPoint_82 (by decide) ?_
          refine w_iand d_MO_putPoint_84 ?_
          refine w_topi (y := nI (c / 2 ^ 8 % 16)) (pk_andN (m := nI 15) (by omega) 4 (by decide)) ?_
          refine w_istore_n d_MO_putPoint_85 (by decide) ?_
          refine w_pl (pl' := [some (.ref 57), some (.int (nI c)), some (.int (nI 8)), some (.int (nI (c / 2 ^ 8 % 16)))]) rfl ?_
          refine w_aload_n d_MO_putPoint_86 rfl rfl ?_
          refine w_iload_n d_MO_putPoint_87 rfl ?_
          refine w_bipush (v := nI 10) d_MO_putPoint_88 (by decide) ?_
          suffices J107 : WP X M_MO_putPoint (wR 1 0 0) 0 EN 0 0 107 [some (.ref 57), some (.int (nI c)), some (.int (nI 8)), some (.int (nI (c / 2 ^ 8 % 16)))] [.int (nI (dg (c / 2 ^ 8 % 16))), .ref 57] g3 by
            refine w_icmp_ge (tgt := 100) d_MO_putPoint_90 rfl (fun c90 => ?_) (fun c90 => ?_)
            · have c90 := (nI_leI (a := 10) (b := c / 2 ^ 8 % 16) (by omega) (by omega)).mp c90
              refine w_bipush (v := nI 97) d_MO_putPoint_100 (by decide) ?_
              refine w_iload_n d_MO_putPoint_102 rfl ?_
              refine w_iadd d_MO_putPoint_103 ?_
              refine w_topi (y := nI (97 + c / 2 ^ 8 % 16)) (nI_add _ _) ?_
              refine w_bipush (v := nI 10) d_MO_putPoint_104 (by decide) ?_
              refine w_isub d_MO_putPoint_106 ?_
              refine w_topi (y := nI (97 + c / 2 ^ 8 % 16 - 10)) (pk_sub (by omega)) ?_
              exact w_topi (congrArg nI (show _ = dg (c / 2 ^ 8 % 16) from (if_neg (by omega)).symm)) J107
            · have c90 : c / 2 ^ 8 % 16 < 10 := Nat.not_le.mp (fun z => c90 ((nI_leI (a := 10) (b := c / 2 ^ 8 % 16) (by omega) (by omega)).mpr z))
              refine w_bipush (v := nI 48) d_MO_putPoint_93 (by decide) ?_
              refine w_iload_n d_MO_putPoint_95 rfl ?_
              refine w_iadd d_MO_putPoint_96 ?_
              refine w_topi (y := nI (48 + c / 2 ^ 8 % 16)) (nI_add _ _) ?_
              refine w_goto (tgt := 107) d_MO_putPoint_97 rfl ?_
              exact w_topi (congrArg nI (show _ = dg (c / 2 ^ 8 % 16) from (if_pos c90).symm)) J107
          refine w_callV (as := [.int (nI (dg (c / 2 ^ 8 % 16)))]) (st := []) d_MO_putPoint_107 yM_MO_put l_MO_208 vM_MO_put kx3 rfl rfl rfl rfl (m_MO_put w3) (by decide) (by decide) (by decide) (by decide) (Nat.le_of_ble_eq_true rfl) ?_
          rintro _ g4 ⟨rfl, w4, o4⟩
          refine w_eq (st' := []) rfl ?_
          have kx4 := w4.1
          refine w_iload_n d_MO_putPoint_110 rfl ?_
          refine w_iconst (v := nI 4) d_MO_putPoint_111 (by decide) ?_
          refine w_isub d_MO_putPoint_112 ?_
          refine w_topi (y := nI 4) (by decide) ?_
          refine w_istore_n d_MO_putPoint_113 (by decide) ?_
          refine w_pl (pl' := [some (.ref 57), some (.int (nI c)), some (.int (nI 4)), some (.int (nI (c / 2 ^ 8 % 16)))]) rfl ?_
          refine w_goto (tgt := 75) d_MO_putPoint_114 rfl ?_
          refine w_iload_n d_MO_putPoint_75 rfl ?_
          refine w_if_lt (tgt := 117) d_MO_putPoint_76 rfl (fun z => absurd z (by decide)) (fun _ => ?_)
          refine w_iload_n d_MO_putPoint_79 rfl ?_
          refine w_iload_n d_MO_putPoint_80 rfl ?_
          refine w_ishr d_MO_putPoint_81 ?_
          refine w_topi (y := nI (c / 2 ^ 4)) (pk_shrN (by omega) _ 4 (by decide)) ?_
          refine w_bipush (v := nI 15) d_MO_putPoint_82 (by decide) ?_
          refine w_iand d_MO_putPoint_84 ?_
          refine w_topi (y := nI (c / 2 ^ 4 % 16)) (pk_andN (m := nI 15) (by omega) 4 (by decide)) ?_
          refine w_istore_n d_MO_putPoint_85 (by decide) ?_
          refine w_pl (pl' := [some (.ref 57), some (.int (nI c)), some (.int (nI 4)), some (.int (nI (c / 2 ^ 4 % 16)))]) rfl ?_
          refine w_aload_n d_MO_putPoint_86 rfl rfl ?_
          refine w_iload_n d_MO_putPoint_87 rfl ?_
          refine w_bipush (v := nI 10) d_MO_putPoint_88 (by decide) ?_
          suffices J107 : WP X M_MO_putPoint (wR 1 0 0) 0 EN 0 0 107 [some (.ref 57), some (.int (nI c)), some (.int (nI 4)), some (.int (nI (c / 2 ^ 4 % 16)))] [.int (nI (dg (c / 2 ^ 4 % 16))), .ref 57] g4 by
            refine w_icmp_ge (tgt := 100) d_MO_putPoint_90 rfl (fun c90 => ?_) (fun c90 => ?_)
            · have c90 := (nI_leI (a := 10) (b := c / 2 ^ 4 % 16) (by omega) (by omega)).mp c90
              refine w_bipush (v := nI 97) d_MO_putPoint_100 (by decide) ?_
              refine w_iload_n d_MO_putPoint_102 rfl ?_
              refine w_iadd d_MO_putPoint_103 ?_
              refine w_topi (y := nI (97 + c / 2 ^ 4 % 16)) (nI_add _ _) ?_
              refine w_bipush (v := nI 10) d_MO_putPoint_104 (by decide) ?_
              refine w_isub d_MO_putPoint_106 ?_
              refine w_topi (y := nI (97 + c / 2 ^ 4 % 16 - 10)) (pk_sub (by omega)) ?_
              exact w_topi (congrArg nI (show _ = dg (c / 2 ^ 4 % 16) from (if_neg (by omega)).symm)) J107
            · have c90 : c / 2 ^ 4 % 16 < 10 := Nat.not_le.mp (fun z => c90 ((nI_leI (a := 10) (b := c / 2 ^ 4 % 16) (by omega) (by omega)).mpr z))
              refine w_bipush (v := nI 48) d_MO_putPoint_93 (by decide) ?_
              refine w_iload_n d_MO_putPoint_95 rfl ?_
              refine w_iadd d_MO_putPoint_96 ?_
              refine w_topi (y := nI (48 + c / 2 ^ 4 % 16)) (nI_add _ _) ?_
              refine w_goto (tgt := 107) d_MO_putPoint_97 rfl ?_
              exact w_topi (congrArg nI (show _ = dg (c / 2 ^ 4 % 16) from (if_pos c90).symm)) J107
          refine w_callV (as := [.int (nI (dg (c / 2 ^ 4 % 16)))]) (st := []) d_MO_putPoint_107 yM_MO_put l_MO_208 vM_MO_put kx4 rfl rfl rfl rfl (m_MO_put w4) (by decide) (by decide) (by decide) (by decide) (Nat.le_of_ble_eq_true rfl) ?_
          rintro _ g5 ⟨rfl, w5, o5⟩
          refine w_eq (st' := []) rfl ?_
          have kx5 := w5.1
          refine w_iload_n d_MO_putPoint_110 rfl ?_
          refine w_iconst (v := nI 4) d_MO_putPoint_111 (by decide) ?_
          refine w_isub d_MO_putPoint_112 ?_
          refine w_topi (y := nI 0) (by decide) ?_
          refine w_istore_n d_MO_putPoint_113 (by decide) ?_
          refine w_pl (pl' := [some (.ref 57), some (.int (nI c)), some (.int (nI 0)), some (.int (nI (c / 2 ^ 4 % 16)))]) rfl ?_
          refine w_goto (tgt := 75) d_MO_putPoint_114 rfl ?_
          refine w_iload_n d_MO_putPoint_75 rfl ?_
          refine w_if_lt (tgt := 117) d_MO_putPoint_76 rfl (fun z => absurd z (by decide)) (fun _ => ?_)
          refine w_iload_n d_MO_putPoint_79 rfl ?_
          refine w_iload_n d_MO_putPoint_80 rfl ?_
          refine w_ishr d_MO_putPoint_81 ?_
          refine w_topi (y := nI (c / 2 ^ 0)) (pk_shrN (by omega) _ 0 (by decide)) ?_
          refine w_bipush (v := nI 15) d_MO_putPoint_82 (by decide) ?_
          refine w_iand d_MO_putPoint_84 ?_
          refine w_topi (y := nI (c / 2 ^ 0 % 16)) (pk_andN (m := nI 15) (by omega) 4 (by decide)) ?_
          refine w_istore_n d_MO_putPoint_85 (by decide) ?_
          refine w_pl (pl' := [some (.ref 57), some (.int (nI c)), some (.int (nI 0)), some (.int (nI (c / 2 ^ 0 % 16)))]) rfl ?_
          refine w_aload_n d_MO_putPoint_86 rfl rfl ?_
          refine w_iload_n d_MO_putPoint_87 rfl ?_
          refine w_bipush (v := nI 10) d_MO_putPoint_88 (by decide) ?_
          suffices J107 : WP X M_MO_putPoint (wR 1 0 0) 0 EN 0 0 107 [some (.ref 57), some (.int (nI c)), some (.int (nI 0)), some (.int (nI (c / 2 ^ 0 % 16)))] [.int (nI (dg (c / 2 ^ 0 % 16))), .ref 57] g5 by
            refine w_icmp_ge (tgt := 100) d_MO_putPoint_90 rfl (fun c90 => ?_) (fun c90 => ?_)
            · have c90 := (nI_leI (a := 10) (b := c / 2 ^ 0 % 16) (by omega) (by omega)).mp c90
              refine w_bipush (v := nI 97) d_MO_putPoint_100 (by decide) ?_
              refine w_iload_n d_MO_putPoint_102 rfl ?_
              refine w_iadd d_MO_putPoint_103 ?_
              refine w_topi (y := nI (97 + c / 2 ^ 0 % 16)) (nI_add _ _) ?_
              refine w_bipush (v := nI 10) d_MO_putPoint_104 (by decide) ?_
              refine w_isub d_MO_putPoint_106 ?_
              refine w_topi (y := nI (97 + c / 2 ^ 0 % 16 - 10)) (pk_sub (by omega)) ?_
              exact w_topi (congrArg nI (show _ = dg (c / 2 ^ 0 % 16) from (if_neg (by omega)).symm)) J107
            · have c90 : c / 2 ^ 0 % 16 < 10 := Nat.not_le.mp (fun z => c90 ((nI_leI (a := 10) (b := c / 2 ^ 0 % 16) (by omega) (by omega)).mpr z))
              refine w_bipush (v := nI 48) d_MO_putPoint_93 (by decide) ?_
              refine w_iload_n d_MO_putPoint_95 rfl ?_
              refine w_iadd d_MO_putPoint_96 ?_
              refine w_topi (y := nI (48 + c / 2 ^ 0 % 16)) (nI_add _ _) ?_
              refine w_goto (tgt := 107) d_MO_putPoint_97 rfl ?_
              exact w_topi (congrArg nI (show _ = dg (c / 2 ^ 0 % 16) from (if_pos c90).symm)) J107
          refine w_callV (as := [.int (nI (dg (c / 2 ^ 0 % 16)))]) (st := []) d_MO_putPoint_107 yM_MO_put l_MO_208 vM_MO_put kx5 rfl rfl rfl rfl (m_MO_put w5) (by decide) (by decide) (by decide) (by decide) (Nat.le_of_ble_eq_true rfl) ?_
          rintro _ g6 ⟨rfl, w6, o6⟩
          refine w_eq (st' := []) rfl ?_
          have kx6 := w6.1
          refine w_iload_n d_MO_putPoint_110 rfl ?_
          refine w_iconst (v := nI 4) d_MO_putPoint_111 (by decide) ?_
          refine w_isub d_MO_putPoint_112 ?_
          refine w_topi (y := (-4)) (by decide) ?_
          refine w_istore_n d_MO_putPoint_113 (by decide) ?_
          refine w_pl (pl' := [some (.ref 57), some (.int (nI c)), some (.int ((-4))), some (.int (nI (c / 2 ^ 0 % 16)))]) rfl ?_
          refine w_goto (tgt := 75) d_MO_putPoint_114 rfl ?_
          refine w_iload_n d_MO_putPoint_75 rfl ?_
          refine w_if_lt (tgt := 117) d_MO_putPoint_76 rfl (fun _ => ?_) (fun z => absurd (by decide) z)
          refine w_aload_n d_MO_putPoint_117 rfl rfl ?_
          refine w_bipush (v := nI 125) d_MO_putPoint_118 (by decide) ?_
          refine w_callV (as := [.int (nI 125)]) (st := []) d_MO_putPoint_120 yM_MO_put l_MO_208 vM_MO_put kx6 rfl rfl rfl rfl (m_MO_put w6) (by decide) (by decide) (by decide) (by decide) (Nat.le_of_ble_eq_true rfl) ?_
          rintro _ g7 ⟨rfl, w7, o7⟩
          refine w_eq (st' := []) rfl ?_
          have kx7 := w7.1
          rw [← hEN]
          refine w_vret d_MO_putPoint_123 rfl ?_
          have hxe : hx c = [dg (c / 2 ^ 8 % 16), dg (c / 2 ^ 4 % 16), dg (c / 2 ^ 0 % 16)] := by unfold hx; rw [if_neg (fun q => q z20), if_neg (fun q => q z16), if_neg (fun q => q z12), if_pos z8]
          refine ⟨rfl, ?_, ((((((o1.tr o2).tr o3).tr o4).tr o5).tr o6).tr o7)⟩
          unfold cT
          rw [if_pos hout, hxe]
          have q := w7
          simp only [List.append_assoc, List.cons_append, List.nil_append] at q ⊢
          exact q
        · have z8 : c / 2 ^ 8 = 0 := by
            rcases Nat.eq_zero_or_pos (c / 2 ^ 8) with z | z
            · exact z
            · exact absurd c65 (nI_ne0 z (by omega))
          refine w_iload_n d_MO_putPoint_68 rfl ?_
          refine w_iconst (v := nI 4) d_MO_putPoint_69 (by decide) ?_
          refine w_isub d_MO_putPoint_70 ?_
          refine w_topi (y := nI 4) (by decide) ?_
          refine w_istore_n d_MO_putPoint_71 (by decide) ?_
          refine w_pl (pl' := [some (.ref 57), some (.int (nI c)), some (.int (nI 4)), none]) rfl ?_
          refine w_goto (tgt := 58) d_MO_putPoint_72 rfl ?_
          refine w_iload_n d_MO_putPoint_58 rfl ?_
          refine w_if_le (tgt := 75) d_MO_putPoint_59 rfl (fun z => absurd z (by decide)) (fun _ => ?_)
          refine w_iload_n d_MO_putPoint_62 rfl ?_
          refine w_iload_n d_MO_putPoint_63 rfl ?_
          refine w_ishr d_MO_putPoint_64 ?_
          refine w_topi (y := nI (c / 2 ^ 4)) (pk_shrN (by omega) _ 4 (by decide)) ?_
          refine w_if_ne (tgt := 75) d_MO_putPoint_65 rfl (fun c65 => ?_) (fun c65 => ?_)
          · have z4 : ¬ c / 2 ^ 4 = 0 := fun z => c65 (by rw [z]; decide)
            refine w_iload_n d_MO_putPoint_75 rfl ?_
            refine w_if_lt (tgt := 117) d_MO_putPoint_76 rfl (fun z => absurd z (by decide)) (fun _ => ?_)
            refine w_iload_n d_MO_putPoint_79 rfl ?_
            refine w_iload_n d_MO_putPoint_80 rfl ?_
            refine w_ishr d_MO_putPoint_81 ?_
            refine w_topi (y := nI (c / 2 ^ 4)) (pk_shrN (by omega) _ 4 (by decide)) ?_
            refine w_bipush (v := nI 15) d_MO_putPoint_82 (by decide) ?_
            refine w_iand d_MO_putPoint_84 ?_
            refine w_topi (y := nI (c / 2 ^ 4 % 16)) (pk_andN (m := nI 15) (by omega) 4 (by decide)) ?_
            refine w_istore_n d_MO_putPoint_85 (by decide) ?_
            refine w_pl (pl' := [some (.ref 57), some (.int (nI c)), some (.int (nI 4)), some (.int (nI (c / 2 ^ 4 % 16)))]) rfl ?_
            refine w_aload_n d_MO_putPoint_86 rfl rfl ?_
            refine w_iload_n d_MO_putPoint_87 rfl ?_
            refine w_bipush (v := nI 10) d_MO_putPoint_88 (by decide) ?_
            suffices J107 : WP X M_MO_putPoint (wR 1 0 0) 0 EN 0 0 107 [some (.ref 57), some (.int (nI c)), some (.int (nI 4)), some (.int (nI (c / 2 ^ 4 % 16)))] [.int (nI (dg (c / 2 ^ 4 % 16))), .ref 57] g3 by
              refine w_icmp_ge (tgt := 100) d_MO_putPoint_90 rfl (fun c90 => ?_) (fun c90 => ?_)
              · have c90 := (nI_leI (a := 10) (b := c / 2 ^ 4 % 16) (by omega) (by omega)).mp c90
                refine w_bipush (v := nI 97) d_MO_putPoint_100 (by decide) ?_
                refine w_iload_n d_MO_putPoint_102 rfl ?_
                refine w_iadd d_MO_putPoint_103 ?_
                refine w_topi (y := nI (97 + c / 2 ^ 4 % 16)) (nI_add _ _) ?_
                refine w_bipush (v := nI 10) d_MO_putPoint_104 (by decide) ?_
                refine w_isub d_MO_putPoint_106 ?_
                refine w_topi (y := nI (97 + c / 2 ^ 4 % 16 - 10)) (pk_sub (by omega)) ?_
                exact w_topi (congrArg nI (show _ = dg (c / 2 ^ 4 % 16) from (if_neg (by omega)).symm)) J107
              · have c90 : c / 2 ^ 4 % 16 < 10 := Nat.not_le.mp (fun z => c90 ((nI_leI (a := 10) (b := c / 2 ^ 4 % 16) (by omega) (by omega)).mpr z))
                refine w_bipush (v := nI 48) d_MO_putPoint_93 (by decide) ?_
                refine w_iload_n d_MO_putPoint_95 rfl ?_
                refine w_iadd d_MO_putPoint_96 ?_
                refine w_topi (y := nI (48 + c / 2 ^ 4 % 16)) (nI_add _ _) ?_
                refine w_goto (tgt := 107) d_MO_putPoint_97 rfl ?_
                exact w_topi (congrArg nI (show _ = dg (c / 2 ^ 4 % 16) from (if_pos c90).symm)) J107
            refine w_callV (as := [.int (nI (dg (c / 2 ^ 4 % 16)))]) (st := []) d_MO_putPoint_107 yM_MO_put l_MO_208 vM_MO_put kx3 rfl rfl rfl rfl (m_MO_put w3) (by decide) (by decide) (by decide) (by decide) (Nat.le_of_ble_eq_true rfl) ?_
            rintro _ g4 ⟨rfl, w4, o4⟩
            refine w_eq (st' := []) rfl ?_
            have kx4 := w4.1
            refine w_iload_n d_MO_putPoint_110 rfl ?_
            refine w_iconst (v := nI 4) d_MO_putPoint_111 (by decide) ?_
            refine w_isub d_MO_putPoint_112 ?_
            refine w_topi (y := nI 0) (by decide) ?_
            refine w_istore_n d_MO_putPoint_113 (by decide) ?_
            refine w_pl (pl' := [some (.ref 57), some (.int (nI c)), some (.int (nI 0)), some (.int (nI (c / 2 ^ 4 % 16)))]) rfl ?_
            refine w_goto (tgt := 75) d_MO_putPoint_114 rfl ?_
            refine w_iload_n d_MO_putPoint_75 rfl ?_
            refine w_if_lt (tgt := 117) d_MO_putPoint_76 rfl (fun z => absurd z (by decide)) (fun _ => ?_)
            refine w_iload_n d_MO_putPoint_79 rfl ?_
            refine w_iload_n d_MO_putPoint_80 rfl ?_
            refine w_ishr d_MO_putPoint_81 ?_
            refine w_topi (y := nI (c / 2 ^ 0)) (pk_shrN (by omega) _ 0 (by decide)) ?_
            refine w_bipush (v := nI 15) d_MO_putPoint_82 (by decide) ?_
            refine w_iand d_MO_putPoint_84 ?_
            refine w_topi (y := nI (c / 2 ^ 0 % 16)) (pk_andN (m := nI 15) (by omega) 4 (by decide)) ?_
            refine w_istore_n d_MO_putPoint_85 (by decide) ?_
            refine w_pl (pl' := [some (.ref 57), some (.int (nI c)), some (.int (nI 0)), some (.int (nI (c / 2 ^ 0 % 16)))]) rfl ?_
            refine w_aload_n d_MO_putPoint_86 rfl rfl ?_
            refine w_iload_n d_MO_putPoint_87 rfl ?_
            refine w_bipush (v := nI 10) d_MO_putPoint_88 (by decide) ?_
            suffices J107 : WP X M_MO_putPoint (wR 1 0 0) 0 EN 0 0 107 [some (.ref 57), some (.int (nI c)), some (.int (nI 0)), some (.int (nI (c / 2 ^ 0 % 16)))] [.int (nI (dg (c / 2 ^ 0 % 16))), .ref 57] g4 by
              refine w_icmp_ge (tgt := 100) d_MO_putPoint_90 rfl (fun c90 => ?_) (fun c90 => ?_)
              · have c90 := (nI_leI (a := 10) (b := c / 2 ^ 0 % 16) (by omega) (by omega)).mp c90
                refine w_bipush (v := nI 97) d_MO_putPoint_100 (by decide) ?_
                refine w_iload_n d_MO_putPoint_102 rfl ?_
                refine w_iadd d_MO_putPoint_103 ?_
                refine w_topi (y := nI (97 + c / 2 ^ 0 % 16)) (nI_add _ _) ?_
                refine w_bipush (v := nI 10) d_MO_putPoint_104 (by decide) ?_
                refine w_isub d_MO_putPoint_106 ?_
                refine w_topi (y := nI (97 + c / 2 ^ 0 % 16 - 10)) (pk_sub (by omega)) ?_
                exact w_topi (congrArg nI (show _ = dg (c / 2 ^ 0 % 16) from (if_neg (by omega)).symm)) J107
              · have c90 : c / 2 ^ 0 % 16 < 10 := Nat.not_le.mp (fun z => c90 ((nI_leI (a := 10) (b := c / 2 ^ 0 % 16) (by omega) (by omega)).mpr z))
                refine w_bipush (v := nI 48) d_MO_putPoint_93 (by decide) ?_
                refine w_iload_n d_MO_putPoint_95 rfl ?_
                refine w_iadd d_MO_putPoint_96 ?_
                refine w_topi (y := nI (48 + c / 2 ^ 0 % 16)) (nI_add _ _) ?_
                refine w_goto (tgt := 107) d_MO_putPoint_97 rfl ?_
                exact w_topi (congrArg nI (show _ = dg (c / 2 ^ 0 % 16) from (if_pos c90).symm)) J107
            refine w_callV (as := [.int (nI (dg (c / 2 ^ 0 % 16)))]) (st := []) d_MO_putPoint_107 yM_MO_put l_MO_208 vM_MO_put kx4 rfl rfl rfl rfl (m_MO_put w4) (by decide) (by decide) (by decide) (by decide) (Nat.le_of_ble_eq_true rfl) ?_
            rintro _ g5 ⟨rfl, w5, o5⟩
            refine w_eq (st' := []) rfl ?_
            have kx5 := w5.1
            refine w_iload_n d_MO_putPoint_110 rfl ?_
            refine w_iconst (v := nI 4) d_MO_putPoint_111 (by decide) ?_
            refine w_isub d_MO_putPoint_112 ?_
            refine w_topi (y := (-4)) (by decide) ?_
            refine w_istore_n d_MO_putPoint_113 (by decide) ?_
            refine w_pl (pl' := [some (.ref 57), some (.int (nI c)), some (.int ((-4))), some (.int (nI (c / 2 ^ 0 % 16)))]) rfl ?_
            refine w_goto (tgt := 75) d_MO_putPoint_114 rfl ?_
            refine w_iload_n d_MO_putPoint_75 rfl ?_
            refine w_if_lt (tgt := 117) d_MO_putPoint_76 rfl (fun _ => ?_) (fun z => absurd (by decide) z)
            refine w_aload_n d_MO_putPoint_117 rfl rfl ?_
            refine w_bipush (v := nI 125) d_MO_putPoint_118 (by decide) ?_
            refine w_callV (as := [.int (nI 125)]) (st := []) d_MO_putPoint_120 yM_MO_put l_MO_208 vM_MO_put kx5 rfl rfl rfl rfl (m_MO_put w5) (by decide) (by decide) (by decide) (by decide) (Nat.le_of_ble_eq_true rfl) ?_
            rintro _ g6 ⟨rfl, w6, o6⟩
            refine w_eq (st' := []) rfl ?_
            have kx6 := w6.1
            rw [← hEN]
            refine w_vret d_MO_putPoint_123 rfl ?_
            have hxe : hx c = [dg (c / 2 ^ 4 % 16), dg (c / 2 ^ 0 % 16)] := by unfold hx; rw [if_neg (fun q => q z20), if_neg (fun q => q z16), if_neg (fun q => q z12), if_neg (fun q => q z8), if_pos z4]
            refine ⟨rfl, ?_, (((((o1.tr o2).tr o3).tr o4).tr o5).tr o6)⟩
            unfold cT
            rw [if_pos hout, hxe]
            have q := w6
            simp only [List.append_assoc, List.cons_append, List.nil_append] at q ⊢
            exact q
          · have z4 : c / 2 ^ 4 = 0 := by
              rcases Nat.eq_zero_or_pos (c / 2 ^ 4) with z | z
              · exact z
              · exact absurd c65 (nI_ne0 z (by omega))
            refine w_iload_n d_MO_putPoint_68 rfl ?_
            refine w_iconst (v := nI 4) d_MO_putPoint_69 (by decide) ?_
            refine w_isub d_MO_putPoint_70 ?_
            refine w_topi (y := nI 0) (by decide) ?_
            refine w_istore_n d_MO_putPoint_71 (by decide) ?_
            refine w_pl (pl' := [some (.ref 57), some (.int (nI c)), some (.int (nI 0)), none]) rfl ?_
            refine w_goto (tgt := 58) d_MO_putPoint_72 rfl ?_
            refine w_iload_n d_MO_putPoint_58 rfl ?_
            refine w_if_le (tgt := 75) d_MO_putPoint_59 rfl (fun _ => ?_) (fun z => absurd (by decide) z)
            refine w_iload_n d_MO_putPoint_75 rfl ?_
            refine w_if_lt (tgt := 117) d_MO_putPoint_76 rfl (fun z => absurd z (by decide)) (fun _ => ?_)
            refine w_iload_n d_MO_putPoint_79 rfl ?_
            refine w_iload_n d_MO_putPoint_80 rfl ?_
            refine w_ishr d_MO_putPoint_81 ?_
            refine w_topi (y := nI (c / 2 ^ 0)) (pk_shrN (by omega) _ 0 (by decide)) ?_
            refine w_bipush (v := nI 15) d_MO_putPoint_82 (by decide) ?_
            refine w_iand d_MO_putPoint_84 ?_
            refine w_topi (y := nI (c / 2 ^ 0 % 16)) (pk_andN (m := nI 15) (by omega) 4 (by decide)) ?_
            refine w_istore_n d_MO_putPoint_85 (by decide) ?_
            refine w_pl (pl' := [some (.ref 57), some (.int (nI c)), some (.int (nI 0)), some (.int (nI (c / 2 ^ 0 % 16)))]) rfl ?_
            refine w_aload_n d_MO_putPoint_86 rfl rfl ?_
            refine w_iload_n d_MO_putPoint_87 rfl ?_
            refine w_bipush (v := nI 10) d_MO_putPoint_88 (by decide) ?_
            suffices J107 : WP X M_MO_putPoint (wR 1 0 0) 0 EN 0 0 107 [some (.ref 57), some (.int (nI c)), some (.int (nI 0)), some (.int (nI (c / 2 ^ 0 % 16)))] [.int (nI (dg (c / 2 ^ 0 % 16))), .ref 57] g3 by
              refine w_icmp_ge (tgt := 100) d_MO_putPoint_90 rfl (fun c90 => ?_) (fun c90 => ?_)
              · have c90 := (nI_leI (a := 10) (b := c / 2 ^ 0 % 16) (by omega) (by omega)).mp c90
                refine w_bipush (v := nI 97) d_MO_putPoint_100 (by decide) ?_
                refine w_iload_n d_MO_putPoint_102 rfl ?_
                refine w_iadd d_MO_putPoint_103 ?_
                refine w_topi (y := nI (97 + c / 2 ^ 0 % 16)) (nI_add _ _) ?_
                refine w_bipush (v := nI 10) d_MO_putPoint_104 (by decide) ?_
                refine w_isub d_MO_putPoint_106 ?_
                refine w_topi (y := nI (97 + c / 2 ^ 0 % 16 - 10)) (pk_sub (by omega)) ?_
                exact w_topi (congrArg nI (show _ = dg (c / 2 ^ 0 % 16) from (if_neg (by omega)).symm)) J107
              · have c90 : c / 2 ^ 0 % 16 < 10 := Nat.not_le.mp (fun z => c90 ((nI_leI (a := 10) (b := c / 2 ^ 0 % 16) (by omega) (by omega)).mpr z))
                refine w_bipush (v := nI 48) d_MO_putPoint_93 (by decide) ?_
                refine w_iload_n d_MO_putPoint_95 rfl ?_
                refine w_iadd d_MO_putPoint_96 ?_
                refine w_topi (y := nI (48 + c / 2 ^ 0 % 16)) (nI_add _ _) ?_
                refine w_goto (tgt := 107) d_MO_putPoint_97 rfl ?_
                exact w_topi (congrArg nI (show _ = dg (c / 2 ^ 0 % 16) from (if_pos c90).symm)) J107
            refine w_callV (as := [.int (nI (dg (c / 2 ^ 0 % 16)))]) (st := []) d_MO_putPoint_107 yM_MO_put l_MO_208 vM_MO_put kx3 rfl rfl rfl rfl (m_MO_put w3) (by decide) (by decide) (by decide) (by decide) (Nat.le_of_ble_eq_true rfl) ?_
            rintro _ g4 ⟨rfl, w4, o4⟩
            refine w_eq (st' := []) rfl ?_
            have kx4 := w4.1
            refine w_iload_n d_MO_putPoint_110 rfl ?_
            refine w_iconst (v := nI 4) d_MO_putPoint_111 (by decide) ?_
            refine w_isub d_MO_putPoint_112 ?_
            refine w_topi (y := (-4)) (by decide) ?_
            refine w_istore_n d_MO_putPoint_113 (by decide) ?_
            refine w_pl (pl' := [some (.ref 57), some (.int (nI c)), some (.int ((-4))), some (.int (nI (c / 2 ^ 0 % 16)))]) rfl ?_
            refine w_goto (tgt := 75) d_MO_putPoint_114 rfl ?_
            refine w_iload_n d_MO_putPoint_75 rfl ?_
            refine w_if_lt (tgt := 117) d_MO_putPoint_76 rfl (fun _ => ?_) (fun z => absurd (by decide) z)
            refine w_aload_n d_MO_putPoint_117 rfl rfl ?_
            refine w_bipush (v := nI 125) d_MO_putPoint_118 (by decide) ?_
            refine w_callV (as := [.int (nI 125)]) (st := []) d_MO_putPoint_120 yM_MO_put l_MO_208 vM_MO_put kx4 rfl rfl rfl rfl (m_MO_put w4) (by decide) (by decide) (by decide) (by decide) (Nat.le_of_ble_eq_true rfl) ?_
            rintro _ g5 ⟨rfl, w5, o5⟩
            refine w_eq (st' := []) rfl ?_
            have kx5 := w5.1
            rw [← hEN]
            refine w_vret d_MO_putPoint_123 rfl ?_
            have hxe : hx c = [dg (c / 2 ^ 0 % 16)] := by unfold hx; rw [if_neg (fun q => q z20), if_neg (fun q => q z16), if_neg (fun q => q z12), if_neg (fun q => q z8), if_neg (fun q => q z4)]
            refine ⟨rfl, ?_, ((((o1.tr o2).tr o3).tr o4).tr o5)⟩
            unfold cT
            rw [if_pos hout, hxe]
            have q := w5
            simp only [List.append_assoc, List.cons_append, List.nil_append] at q ⊢
            exact q
end MO7
