/-! the law's calls: written by wip/gen/lw3.py -/
theorem sR_nl {S T : List Nat} (h : sR S T) : S = [] ↔ T = [] := by
  have := sR_len h
  constructor
  · intro z
    rw [z] at this
    exact List.length_eq_zero_iff.mp this.symm
  · intro z
    rw [z] at this
    exact List.length_eq_zero_iff.mp this
theorem gOk.i {t : List Nat} {G : gG} (g : gOk t G) {r : Nat} (hr : r < 3) : iOk (G r) := by
  have q := g.2 r hr
  exact ⟨q.1, q.2.2.1, q.2.2.2.1, q.2.2.2.2⟩
section LW3
variable {X : wX} {E : wN} {nm : String}
set_option maxHeartbeats 4000000 in
set_option maxRecDepth 100000 in
theorem lw_0G (hT : xTab X) {h : wH} {t : List Nat} {G : gG} {EE SS : Nat → List Nat} {xs : Nat → Int32} {L i : Nat} (hs : (xo X)[13]? = some (L, xs)) (hL : L ≤ 2048) (hi : i + 4 ≤ L) (a : LR h t G EE SS) (K : ∀ (h' : wH) (t' : List Nat) (G' : gG) (EE' SS' : Nat → List Nat), LR h' t' G' EE' SS' → WP X (M_LW_law nm) room_1 68 E 68 10981 581 [some (.ref (1000 + 13)), some (.ref 0), some (.ref 57), some (.int (nI i))] [] h') {c : Nat} (hc : c < 1114112) (e1 : xs (i + 1) = nI c) : WP X (M_LW_law nm) room_1 68 E 68 10981 116 [some (.ref (1000 + 13)), some (.ref 0), some (.ref 57), some (.int (nI i))] [] h := by
  obtain ⟨hcp, hmo, hg, hrel, e11, f11⟩ := id a
  obtain ⟨sp, Es, Ss, pr, hq⟩ := id hcp
  have c0 := hq.1
  obtain ⟨ap0, gd0, dp0, wr0, fi0, m0⟩ := hmo.1
  have hmk := a.mok
  have ht := hg.1
  have t60 : t.length ≤ 60 := hmo.2.1.choose_spec.2.1
  refine w_aload_n d_LW_law_116 rfl rfl ?_
  refine w_aload_n d_LW_law_117 rfl rfl ?_
  refine w_iload_n d_LW_law_118 rfl ?_
  refine w_iconst (v := nI 1) d_LW_law_119 (by decide) ?_
  refine w_iadd d_LW_law_120 ?_
  refine w_topi (y := nI (i + 1)) (nI_add _ _) ?_
  refine w_ti d_LW_law_121 hs (vp_in_nI (by omega) (by omega)) ?_
  refine w_topi (y := nI c) (by rw [nI_clamp (by omega)]; exact e1) ?_
  refine w_callV (as := [.int (nI c)]) (st := []) d_LW_law_122 yM_CP_type l_LW_13 vM_CP_type c0 rfl rfl rfl rfl (m_CP_typeG hq hc) (by decide) (by decide) (by decide) (by decide) (Nat.le_of_ble_eq_true rfl) ?_
  rintro _ h1 ⟨rfl, hcp1, o1⟩
  refine w_eq (st' := [.int (bI (decide (t.length < 60)))]) rfl ?_
  have m1 := (o1 57 (by omega)).trans m0
  refine w_aload_n d_LW_law_125 rfl rfl ?_
  refine w_aload_n d_LW_law_126 rfl rfl ?_
  refine w_iload_n d_LW_law_127 rfl ?_
  refine w_iconst (v := nI 1) d_LW_law_128 (by decide) ?_
  refine w_iadd d_LW_law_129 ?_
  refine w_topi (y := nI (i + 1)) (nI_add _ _) ?_
  refine w_ti d_LW_law_130 hs (vp_in_nI (by omega) (by omega)) ?_
  refine w_topi (y := nI c) (by rw [nI_clamp (by omega)]; exact e1) ?_
  refine w_callV (as := [.int (nI c)]) (st := [.int (bI (decide (t.length < 60)))]) d_LW_law_131 yM_MO_type l_LW_17 vM_MO_type m1 rfl rfl rfl rfl (m_MO_typeG (hmo.off o1) hc) (by decide) (by decide) (by decide) (by decide) (Nat.le_of_ble_eq_true rfl) ?_
  rintro _ h2 ⟨rfl, hmo2, o2⟩
  refine w_eq (st' := [.int (bI (decide (t.length < 60))), .int (bI (decide (t.length < 60)))]) rfl ?_
  refine w_icmp_eq (tgt := 581) d_LW_law_134 rfl (fun _ => ?_) (fun z => absurd rfl z)
  have ht2 : ∀ x ∈ (if t.length < 60 then t ++ [c] else t), x < 1114112 := by
    intro x hx
    split at hx
    · rcases List.mem_append.mp hx with z | z
      · exact ht x z
      · rw [List.mem_singleton] at z; omega
    · exact ht x hx
  exact K _ _ G EE SS ⟨hcp1.off o2, hmo2, ⟨ht2, hg.2⟩, hrel, e11, f11⟩
set_option maxHeartbeats 4000000 in
set_option maxRecDepth 100000 in
theorem lw_0B (hT : xTab X) {h : wH} {t : List Nat} {G : gG} {EE SS : Nat → List Nat} {xs : Nat → Int32} {L i : Nat} (hs : (xo X)[13]? = some (L, xs)) (hL : L ≤ 2048) (hi : i + 4 ≤ L) (a : LR h t G EE SS) (K : ∀ (h' : wH) (t' : List Nat) (G' : gG) (EE' SS' : Nat → List Nat), LR h' t' G' EE' SS' → WP X (M_LW_law nm) room_1 68 E 68 10981 581 [some (.ref (1000 + 13)), some (.ref 0), some (.ref 57), some (.int (nI i))] [] h') {x1 : Int32} (hx1 : ¬ (0 ≤ x1 ∧ x1 < nI 1114112)) (e1 : xs (i + 1) = x1) : WP X (M_LW_law nm) room_1 68 E 68 10981 116 [some (.ref (1000 + 13)), some (.ref 0), some (.ref 57), some (.int (nI i))] [] h := by
  obtain ⟨hcp, hmo, hg, hrel, e11, f11⟩ := id a
  obtain ⟨sp, Es, Ss, pr, hq⟩ := id hcp
  have c0 := hq.1
  obtain ⟨ap0, gd0, dp0, wr0, fi0, m0⟩ := hmo.1
  have hmk := a.mok
  have ht := hg.1
  have t60 : t.length ≤ 60 := hmo.2.1.choose_spec.2.1
  refine w_aload_n d_LW_law_116 rfl rfl ?_
  refine w_aload_n d_LW_law_117 rfl rfl ?_
  refine w_iload_n d_LW_law_118 rfl ?_
  refine w_iconst (v := nI 1) d_LW_law_119 (by decide) ?_
  refine w_iadd d_LW_law_120 ?_
  refine w_topi (y := nI (i + 1)) (nI_add _ _) ?_
  refine w_ti d_LW_law_121 hs (vp_in_nI (by omega) (by omega)) ?_
  refine w_topi (y := x1) (by rw [nI_clamp (by omega)]; exact e1) ?_
  refine w_callV (as := [.int (x1)]) (st := []) d_LW_law_122 yM_CP_type l_LW_13 vM_CP_type c0 rfl rfl rfl rfl (m_CP_typeB hq hx1) (by decide) (by decide) (by decide) (by decide) (Nat.le_of_ble_eq_true rfl) ?_
  rintro _ h9_1 ⟨rfl, e9_1⟩
  rw [e9_1]
  refine w_eq (st' := [.int (bI false)]) rfl ?_
  refine w_aload_n d_LW_law_125 rfl rfl ?_
  refine w_aload_n d_LW_law_126 rfl rfl ?_
  refine w_iload_n d_LW_law_127 rfl ?_
  refine w_iconst (v := nI 1) d_LW_law_128 (by decide) ?_
  refine w_iadd d_LW_law_129 ?_
  refine w_topi (y := nI (i + 1)) (nI_add _ _) ?_
  refine w_ti d_LW_law_130 hs (vp_in_nI (by omega) (by omega)) ?_
  refine w_topi (y := x1) (by rw [nI_clamp (by omega)]; exact e1) ?_
  refine w_callV (as := [.int (x1)]) (st := [.int (bI false)]) d_LW_law_131 yM_MO_type l_LW_17 vM_MO_type m0 rfl rfl rfl rfl (m_MO_typeB hmo hx1) (by decide) (by decide) (by decide) (by decide) (Nat.le_of_ble_eq_true rfl) ?_
  rintro _ h9_2 ⟨rfl, e9_2⟩
  rw [e9_2]
  refine w_eq (st' := [.int (bI false), .int (bI false)]) rfl ?_
  refine w_icmp_eq (tgt := 581) d_LW_law_134 rfl (fun _ => ?_) (fun z => absurd rfl z)
  exact K _ _ _ _ _ a
set_option maxHeartbeats 4000000 in
set_option maxRecDepth 100000 in
theorem lw_1 (hT : xTab X) {h : wH} {t : List Nat} {G : gG} {EE SS : Nat → List Nat} {xs : Nat → Int32} {L i : Nat} (hs : (xo X)[13]? = some (L, xs)) (hL : L ≤ 2048) (hi : i + 4 ≤ L) (a : LR h t G EE SS) (K : ∀ (h' : wH) (t' : List Nat) (G' : gG) (EE' SS' : Nat → List Nat), LR h' t' G' EE' SS' → WP X (M_LW_law nm) room_1 68 E 68 10981 581 [some (.ref (1000 + 13)), some (.ref 0), some (.ref 57), some (.int (nI i))] [] h') : WP X (M_LW_law nm) room_1 68 E 68 10981 139 [some (.ref (1000 + 13)), some (.ref 0), some (.ref 57), some (.int (nI i))] [] h := by
  obtain ⟨hcp, hmo, hg, hrel, e11, f11⟩ := id a
  obtain ⟨sp, Es, Ss, pr, hq⟩ := id hcp
  have c0 := hq.1
  obtain ⟨ap0, gd0, dp0, wr0, fi0, m0⟩ := hmo.1
  have hmk := a.mok
  have ht := hg.1
  have t60 : t.length ≤ 60 := hmo.2.1.choose_spec.2.1
  refine w_aload_n d_LW_law_139 rfl rfl ?_
  refine w_callV (as := []) (st := []) d_LW_law_140 yM_CP_wipe l_LW_18 vM_CP_wipe c0 rfl rfl rfl rfl (m_CP_wipe hq) (by decide) (by decide) (by decide) (by decide) (Nat.le_of_ble_eq_true rfl) ?_
  rintro _ h1 ⟨rfl, hcp1, o1⟩
  refine w_eq (st' := []) rfl ?_
  have m1 := (o1 57 (by omega)).trans m0
  refine w_aload_n d_LW_law_143 rfl rfl ?_
  refine w_callV (as := []) (st := []) d_LW_law_144 yM_MO_wipe l_LW_21 vM_MO_wipe m1 rfl rfl rfl rfl (m_MO_wipe (hmo.off o1)) (by decide) (by decide) (by decide) (by decide) (Nat.le_of_ble_eq_true rfl) ?_
  rintro _ h2 ⟨rfl, hmo2, o2⟩
  refine w_eq (st' := []) rfl ?_
  refine w_goto (tgt := 581) d_LW_law_147 rfl ?_
  exact K _ _ G EE SS ⟨hcp1.off o2, hmo2, ⟨fun x hx => (by cases hx), hg.2⟩, hrel, e11, f11⟩
set_option maxHeartbeats 4000000 in
set_option maxRecDepth 100000 in
theorem lw_2 (hT : xTab X) {h : wH} {t : List Nat} {G : gG} {EE SS : Nat → List Nat} {xs : Nat → Int32} {L i : Nat} (hs : (xo X)[13]? = some (L, xs)) (hL : L ≤ 2048) (hi : i + 4 ≤ L) (a : LR h t G EE SS) (K : ∀ (h' : wH) (t' : List Nat) (G' : gG) (EE' SS' : Nat → List Nat), LR h' t' G' EE' SS' → WP X (M_LW_law nm) room_1 68 E 68 10981 581 [some (.ref (1000 + 13)), some (.ref 0), some (.ref 57), some (.int (nI i))] [] h') : WP X (M_LW_law nm) room_1 68 E 68 10981 150 [some (.ref (1000 + 13)), some (.ref 0), some (.ref 57), some (.int (nI i))] [] h := by
  obtain ⟨hcp, hmo, hg, hrel, e11, f11⟩ := id a
  obtain ⟨sp, Es, Ss, pr, hq⟩ := id hcp
  have c0 := hq.1
  obtain ⟨ap0, gd0, dp0, wr0, fi0, m0⟩ := hmo.1
  have hmk := a.mok
  have ht := hg.1
  have t60 : t.length ≤ 60 := hmo.2.1.choose_spec.2.1
  refine w_aload_n d_LW_law_150 rfl rfl ?_
  refine w_callV (as := []) (st := []) d_LW_law_151 yM_CP_length l_LW_22 vM_CP_length c0 rfl rfl rfl rfl (m_CP_length hq) (by decide) (by decide) (by decide) (by decide) (Nat.le_of_ble_eq_true rfl) ?_
  rintro _ h9_1 ⟨rfl, e9_1⟩
  rw [e9_1]
  refine w_eq (st' := [.int (nI t.length)]) rfl ?_
  refine w_aload_n d_LW_law_154 rfl rfl ?_
  refine w_callV (as := []) (st := [.int (nI t.length)]) d_LW_law_155 yM_MO_length l_LW_26 vM_MO_length m0 rfl rfl rfl rfl (m_MO_length hmo) (by decide) (by decide) (by decide) (by decide) (Nat.le_of_ble_eq_true rfl) ?_
  rintro _ h9_2 ⟨rfl, e9_2⟩
  rw [e9_2]
  refine w_eq (st' := [.int (nI t.length), .int (nI t.length)]) rfl ?_
  refine w_icmp_eq (tgt := 581) d_LW_law_158 rfl (fun _ => ?_) (fun z => absurd rfl z)
  exact K _ _ _ _ _ a
set_option maxHeartbeats 4000000 in
set_option maxRecDepth 100000 in
theorem lw_3 (hT : xTab X) {h : wH} {t : List Nat} {G : gG} {EE SS : Nat → List Nat} {xs : Nat → Int32} {L i : Nat} (hs : (xo X)[13]? = some (L, xs)) (hL : L ≤ 2048) (hi : i + 4 ≤ L) (a : LR h t G EE SS) (K : ∀ (h' : wH) (t' : List Nat) (G' : gG) (EE' SS' : Nat → List Nat), LR h' t' G' EE' SS' → WP X (M_LW_law nm) room_1 68 E 68 10981 581 [some (.ref (1000 + 13)), some (.ref 0), some (.ref 57), some (.int (nI i))] [] h') {x1 : Int32} (e1 : xs (i + 1) = x1) : WP X (M_LW_law nm) room_1 68 E 68 10981 163 [some (.ref (1000 + 13)), some (.ref 0), some (.ref 57), some (.int (nI i))] [] h := by
  obtain ⟨hcp, hmo, hg, hrel, e11, f11⟩ := id a
  obtain ⟨sp, Es, Ss, pr, hq⟩ := id hcp
  have c0 := hq.1
  obtain ⟨ap0, gd0, dp0, wr0, fi0, m0⟩ := hmo.1
  have hmk := a.mok
  have ht := hg.1
  have t60 : t.length ≤ 60 := hmo.2.1.choose_spec.2.1
  refine w_aload_n d_LW_law_163 rfl rfl ?_
  refine w_aload_n d_LW_law_164 rfl rfl ?_
  refine w_iload_n d_LW_law_165 rfl ?_
  refine w_iconst (v := nI 1) d_LW_law_166 (by decide) ?_
  refine w_iadd d_LW_law_167 ?_
  refine w_topi (y := nI (i + 1)) (nI_add _ _) ?_
  refine w_ti d_LW_law_168 hs (vp_in_nI (by omega) (by omega)) ?_
  refine w_topi (y := x1) (by rw [nI_clamp (by omega)]; exact e1) ?_
  refine w_callV (as := [.int (x1)]) (st := []) d_LW_law_169 yM_CP_at l_LW_27 vM_CP_at c0 rfl rfl rfl rfl (m_CP_at hq) (by decide) (by decide) (by decide) (by decide) (Nat.le_of_ble_eq_true rfl) ?_
  rintro _ h9_1 ⟨rfl, e9_1⟩
  rw [e9_1]
  refine w_eq (st' := [.int (if x1 < 0 then -1 else match t[(x1).toNatClampNeg]? with | some x => nI x | none => -1)]) rfl ?_
  refine w_aload_n d_LW_law_172 rfl rfl ?_
  refine w_aload_n d_LW_law_173 rfl rfl ?_
  refine w_iload_n d_LW_law_174 rfl ?_
  refine w_iconst (v := nI 1) d_LW_law_175 (by decide) ?_
  refine w_iadd d_LW_law_176 ?_
  refine w_topi (y := nI (i + 1)) (nI_add _ _) ?_
  refine w_ti d_LW_law_177 hs (vp_in_nI (by omega) (by omega)) ?_
  refine w_topi (y := x1) (by rw [nI_clamp (by omega)]; exact e1) ?_
  refine w_callV (as := [.int (x1)]) (st := [.int (if x1 < 0 then -1 else match t[(x1).toNatClampNeg]? with | some x => nI x | none => -1)]) d_LW_law_178 yM_MO_at l_LW_31 vM_MO_at m0 rfl rfl rfl rfl (m_MO_at hmo) (by decide) (by decide) (by decide) (by decide) (Nat.le_of_ble_eq_true rfl) ?_
  rintro _ h9_2 ⟨rfl, e9_2⟩
  rw [e9_2]
  refine w_eq (st' := [.int (if x1 < 0 then -1 else match t[(x1).toNatClampNeg]? with | some x => nI x | none => -1), .int (if x1 < 0 then -1 else match t[(x1).toNatClampNeg]? with | some x => nI x | none => -1)]) rfl ?_
  refine w_icmp_eq (tgt := 581) d_LW_law_181 rfl (fun _ => ?_) (fun z => absurd rfl z)
  exact K _ _ _ _ _ a
set_option maxHeartbeats 4000000 in
set_option maxRecDepth 100000 in
theorem lw_4G (hT : xTab X) {h : wH} {t : List Nat} {G : gG} {EE SS : Nat → List Nat} {xs : Nat → Int32} {L i : Nat} (hs : (xo X)[13]? = some (L, xs)) (hL : L ≤ 2048) (hi : i + 4 ≤ L) (a : LR h t G EE SS) (K : ∀ (h' : wH) (t' : List Nat) (G' : gG) (EE' SS' : Nat → List Nat), LR h' t' G' EE' SS' → WP X (M_LW_law nm) room_1 68 E 68 10981 581 [some (.ref (1000 + 13)), some (.ref 0), some (.ref 57), some (.int (nI i))] [] h') {r : Nat} (hr : r < 3) (e1 : xs (i + 1) = nI r) : WP X (M_LW_law nm) room_1 68 E 68 10981 186 [some (.ref (1000 + 13)), some (.ref 0), some (.ref 57), some (.int (nI i))] [] h := by
  obtain ⟨hcp, hmo, hg, hrel, e11, f11⟩ := id a
  obtain ⟨sp, Es, Ss, pr, hq⟩ := id hcp
  have c0 := hq.1
  obtain ⟨ap0, gd0, dp0, wr0, fi0, m0⟩ := hmo.1
  have hmk := a.mok
  have ht := hg.1
  have t60 : t.length ≤ 60 := hmo.2.1.choose_spec.2.1
  refine w_aload_n d_LW_law_186 rfl rfl ?_
  refine w_aload_n d_LW_law_187 rfl rfl ?_
  refine w_iload_n d_LW_law_188 rfl ?_
  refine w_iconst (v := nI 1) d_LW_law_189 (by decide) ?_
  refine w_iadd d_LW_law_190 ?_
  refine w_topi (y := nI (i + 1)) (nI_add _ _) ?_
  refine w_ti d_LW_law_191 hs (vp_in_nI (by omega) (by omega)) ?_
  refine w_topi (y := nI r) (by rw [nI_clamp (by omega)]; exact e1) ?_
  refine w_callV (as := [.int (nI r)]) (st := []) d_LW_law_192 yM_CP_apply l_LW_32 vM_CP_apply c0 rfl rfl rfl rfl (m_CP_applyG hT hq hg hr) (by decide) (by decide) (by decide) (by decide) (Nat.le_of_ble_eq_true rfl) ?_
  rintro _ h1 ⟨B, rfl, hcp1, hv1, o1⟩
  refine w_eq (st' := [.int (bI (vT B t).isSome)]) rfl ?_
  have m1 := (o1 57 (by omega)).trans m0
  refine w_aload_n d_LW_law_195 rfl rfl ?_
  refine w_aload_n d_LW_law_196 rfl rfl ?_
  refine w_iload_n d_LW_law_197 rfl ?_
  refine w_iconst (v := nI 1) d_LW_law_198 (by decide) ?_
  refine w_iadd d_LW_law_199 ?_
  refine w_topi (y := nI (i + 1)) (nI_add _ _) ?_
  refine w_ti d_LW_law_200 hs (vp_in_nI (by omega) (by omega)) ?_
  refine w_topi (y := nI r) (by rw [nI_clamp (by omega)]; exact e1) ?_
  refine w_callV (as := [.int (nI r)]) (st := [.int (bI (vT B t).isSome)]) d_LW_law_201 yM_MO_apply l_LW_35 vM_MO_apply m1 rfl rfl rfl rfl (m_MO_applyG (B := B) (hmo.off o1) ht e11 f11 hr) (by decide) (by decide) (by decide) (by decide) (Nat.le_of_ble_eq_true rfl) ?_
  rintro _ h2 ⟨rfl, o2, F2, T2, hmo2, j2, n2, y2⟩
  refine w_eq (st' := [.int (bI (pVal t B).isSome), .int (bI (vT B t).isSome)]) rfl ?_
  refine w_icmp_eq (tgt := 581) d_LW_law_204 rfl (fun _ => ?_) (fun z => absurd (by rw [val_eq ht t60 B]) z)
  rw [val_eq ht t60 B] at n2 y2
  have hj := j2 11 (by omega) (Or.inr rfl)
  rcases Option.eq_none_or_eq_some (vT B t) with hV | ⟨V, hV⟩
  · rw [hV] at hcp1
    exact K _ t G F2 T2 ⟨hcp1.off o2, hmo2, hg, rel_same hrel (n2 hV).1 (n2 hV).2 j2, hj.1.trans e11, hj.2.trans f11⟩
  · rw [hV] at hcp1
    have y := y2 V hV
    have z := hv1 V hV
    exact K _ t (gUp G r V) F2 T2 ⟨hcp1.off o2, hmo2, gOk_up hg ⟨z.1.1, (by omega), z.1.2.1, z.1.2.2.1, z.1.2.2.2⟩, rel_up hrel y.1 y.2 j2, hj.1.trans e11, hj.2.trans f11⟩
set_option maxHeartbeats 4000000 in
set_option maxRecDepth 100000 in
theorem lw_4B (hT : xTab X) {h : wH} {t : List Nat} {G : gG} {EE SS : Nat → List Nat} {xs : Nat → Int32} {L i : Nat} (hs : (xo X)[13]? = some (L, xs)) (hL : L ≤ 2048) (hi : i + 4 ≤ L) (a : LR h t G EE SS) (K : ∀ (h' : wH) (t' : List Nat) (G' : gG) (EE' SS' : Nat → List Nat), LR h' t' G' EE' SS' → WP X (M_LW_law nm) room_1 68 E 68 10981 581 [some (.ref (1000 + 13)), some (.ref 0), some (.ref 57), some (.int (nI i))] [] h') {x1 : Int32} (hx1 : ¬ (0 ≤ x1 ∧ x1 < nI 3)) (e1 : xs (i + 1) = x1) : WP X (M_LW_law nm) room_1 68 E 68 10981 186 [some (.ref (1000 + 13)), some (.ref 0), some (.ref 57), some (.int (nI i))] [] h := by
  obtain ⟨hcp, hmo, hg, hrel, e11, f11⟩ := id a
  obtain ⟨sp, Es, Ss, pr, hq⟩ := id hcp
  have c0 := hq.1
  obtain ⟨ap0, gd0, dp0, wr0, fi0, m0⟩ := hmo.1
  have hmk := a.mok
  have ht := hg.1
  have t60 : t.length ≤ 60 := hmo.2.1.choose_spec.2.1
  refine w_aload_n d_LW_law_186 rfl rfl ?_
  refine w_aload_n d_LW_law_187 rfl rfl ?_
  refine w_iload_n d_LW_law_188 rfl ?_
  refine w_iconst (v := nI 1) d_LW_law_189 (by decide) ?_
  refine w_iadd d_LW_law_190 ?_
  refine w_topi (y := nI (i + 1)) (nI_add _ _) ?_
  refine w_ti d_LW_law_191 hs (vp_in_nI (by omega) (by omega)) ?_
  refine w_topi (y := x1) (by rw [nI_clamp (by omega)]; exact e1) ?_
  refine w_callV (as := [.int (x1)]) (st := []) d_LW_law_192 yM_CP_apply l_LW_32 vM_CP_apply c0 rfl rfl rfl rfl (m_CP_applyB hq hx1) (by decide) (by decide) (by decide) (by decide) (Nat.le_of_ble_eq_true rfl) ?_
  rintro _ h9_1 ⟨rfl, e9_1⟩
  rw [e9_1]
  refine w_eq (st' := [.int (bI false)]) rfl ?_
  refine w_aload_n d_LW_law_195 rfl rfl ?_
  refine w_aload_n d_LW_law_196 rfl rfl ?_
  refine w_iload_n d_LW_law_197 rfl ?_
  refine w_iconst (v := nI 1) d_LW_law_198 (by decide) ?_
  refine w_iadd d_LW_law_199 ?_
  refine w_topi (y := nI (i + 1)) (nI_add _ _) ?_
  refine w_ti d_LW_law_200 hs (vp_in_nI (by omega) (by omega)) ?_
  refine w_topi (y := x1) (by rw [nI_clamp (by omega)]; exact e1) ?_
  refine w_callV (as := [.int (x1)]) (st := [.int (bI false)]) d_LW_law_201 yM_MO_apply l_LW_35 vM_MO_apply m0 rfl rfl rfl rfl (m_MO_applyB (r0 := 0) hmo hx1) (by decide) (by decide) (by decide) (by decide) (Nat.le_of_ble_eq_true rfl) ?_
  rintro _ h9_2 ⟨rfl, e9_2⟩
  rw [e9_2]
  refine w_eq (st' := [.int (bI false), .int (bI false)]) rfl ?_
  refine w_icmp_eq (tgt := 581) d_LW_law_204 rfl (fun _ => ?_) (fun z => absurd rfl z)
  exact K _ _ _ _ _ a
set_option maxHeartbeats 4000000 in
set_option maxRecDepth 100000 in
theorem lw_5G (hT : xTab X) {h : wH} {t : List Nat} {G : gG} {EE SS : Nat → List Nat} {xs : Nat → Int32} {L i : Nat} (hs : (xo X)[13]? = some (L, xs)) (hL : L ≤ 2048) (hi : i + 4 ≤ L) (a : LR h t G EE SS) (K : ∀ (h' : wH) (t' : List Nat) (G' : gG) (EE' SS' : Nat → List Nat), LR h' t' G' EE' SS' → WP X (M_LW_law nm) room_1 68 E 68 10981 581 [some (.ref (1000 + 13)), some (.ref 0), some (.ref 57), some (.int (nI i))] [] h') {r : Nat} (hr : r < 3) (e1 : xs (i + 1) = nI r) : WP X (M_LW_law nm) room_1 68 E 68 10981 209 [some (.ref (1000 + 13)), some (.ref 0), some (.ref 57), some (.int (nI i))] [] h := by
  obtain ⟨hcp, hmo, hg, hrel, e11, f11⟩ := id a
  obtain ⟨sp, Es, Ss, pr, hq⟩ := id hcp
  have c0 := hq.1
  obtain ⟨ap0, gd0, dp0, wr0, fi0, m0⟩ := hmo.1
  have hmk := a.mok
  have ht := hg.1
  have t60 : t.length ≤ 60 := hmo.2.1.choose_spec.2.1
  refine w_aload_n d_LW_law_209 rfl rfl ?_
  refine w_aload_n d_LW_law_210 rfl rfl ?_
  refine w_iload_n d_LW_law_211 rfl ?_
  refine w_iconst (v := nI 1) d_LW_law_212 (by decide) ?_
  refine w_iadd d_LW_law_213 ?_
  refine w_topi (y := nI (i + 1)) (nI_add _ _) ?_
  refine w_ti d_LW_law_214 hs (vp_in_nI (by omega) (by omega)) ?_
  refine w_topi (y := nI r) (by rw [nI_clamp (by omega)]; exact e1) ?_
  refine w_callV (as := [.int (nI r)]) (st := []) d_LW_law_215 yM_CP_print l_LW_36 vM_CP_print c0 rfl rfl rfl rfl (m_CP_printG hq hg hr) (by decide) (by decide) (by decide) (by decide) (Nat.le_of_ble_eq_true rfl) ?_
  rintro _ h1 ⟨rfl, hcp1, o1⟩
  refine w_eq (st' := [.int (if (pT ((G r).1) (G r).2).length ≤ 60 then nI (pT ((G r).1) (G r).2).length else -1)]) rfl ?_
  have m1 := (o1 57 (by omega)).trans m0
  refine w_aload_n d_LW_law_218 rfl rfl ?_
  refine w_aload_n d_LW_law_219 rfl rfl ?_
  refine w_iload_n d_LW_law_220 rfl ?_
  refine w_iconst (v := nI 1) d_LW_law_221 (by decide) ?_
  refine w_iadd d_LW_law_222 ?_
  refine w_topi (y := nI (i + 1)) (nI_add _ _) ?_
  refine w_ti d_LW_law_223 hs (vp_in_nI (by omega) (by omega)) ?_
  refine w_topi (y := nI r) (by rw [nI_clamp (by omega)]; exact e1) ?_
  refine w_callV (as := [.int (nI r)]) (st := [.int (if (pT ((G r).1) (G r).2).length ≤ 60 then nI (pT ((G r).1) (G r).2).length else -1)]) d_LW_law_224 yM_MO_print l_LW_39 vM_MO_print m1 rfl rfl rfl rfl (m_MO_printG (S := (G r).2) (hmo.off o1) hmk hr (hrel r hr).2) (by decide) (by decide) (by decide) (by decide) (Nat.le_of_ble_eq_true rfl) ?_
  rintro _ h2 ⟨rfl, hmo2, o2⟩
  refine w_eq (st' := [.int (if (pT (EE r) (G r).2).length ≤ 60 then nI (pT (EE r) (G r).2).length else -1), .int (if (pT ((G r).1) (G r).2).length ≤ 60 then nI (pT ((G r).1) (G r).2).length else -1)]) rfl ?_
  refine w_icmp_eq (tgt := 581) d_LW_law_227 rfl (fun _ => ?_) (fun z => absurd (by rw [(hrel r hr).1]) z)
  rw [(hrel r hr).1] at hmo2
  have ht2 : ∀ x ∈ (if (pT (G r).1 (G r).2).length ≤ 60 then pT (G r).1 (G r).2 else t), x < 1114112 := by
    intro x hx
    split at hx
    · exact pT_b _ _ x hx
    · exact ht x hx
  exact K _ _ G EE SS ⟨hcp1.off o2, hmo2, ⟨ht2, hg.2⟩, hrel, e11, f11⟩
set_option maxHeartbeats 4000000 in
set_option maxRecDepth 100000 in
theorem lw_5B (hT : xTab X) {h : wH} {t : List Nat} {G : gG} {EE SS : Nat → List Nat} {xs : Nat → Int32} {L i : Nat} (hs : (xo X)[13]? = some (L, xs)) (hL : L ≤ 2048) (hi : i + 4 ≤ L) (a : LR h t G EE SS) (K : ∀ (h' : wH) (t' : List Nat) (G' : gG) (EE' SS' : Nat → List Nat), LR h' t' G' EE' SS' → WP X (M_LW_law nm) room_1 68 E 68 10981 581 [some (.ref (1000 + 13)), some (.ref 0), some (.ref 57), some (.int (nI i))] [] h') {x1 : Int32} (hx1 : ¬ (0 ≤ x1 ∧ x1 < nI 3)) (e1 : xs (i + 1) = x1) : WP X (M_LW_law nm) room_1 68 E 68 10981 209 [some (.ref (1000 + 13)), some (.ref 0), some (.ref 57), some (.int (nI i))] [] h := by
  obtain ⟨hcp, hmo, hg, hrel, e11, f11⟩ := id a
  obtain ⟨sp, Es, Ss, pr, hq⟩ := id hcp
  have c0 := hq.1
  obtain ⟨ap0, gd0, dp0, wr0, fi0, m0⟩ := hmo.1
  have hmk := a.mok
  have ht := hg.1
  have t60 : t.length ≤ 60 := hmo.2.1.choose_spec.2.1
  refine w_aload_n d_LW_law_209 rfl rfl ?_
  refine w_aload_n d_LW_law_210 rfl rfl ?_
  refine w_iload_n d_LW_law_211 rfl ?_
  refine w_iconst (v := nI 1) d_LW_law_212 (by decide) ?_
  refine w_iadd d_LW_law_213 ?_
  refine w_topi (y := nI (i + 1)) (nI_add _ _) ?_
  refine w_ti d_LW_law_214 hs (vp_in_nI (by omega) (by omega)) ?_
  refine w_topi (y := x1) (by rw [nI_clamp (by omega)]; exact e1) ?_
  refine w_callV (as := [.int (x1)]) (st := []) d_LW_law_215 yM_CP_print l_LW_36 vM_CP_print c0 rfl rfl rfl rfl (m_CP_printB hq hx1) (by decide) (by decide) (by decide) (by decide) (Nat.le_of_ble_eq_true rfl) ?_
  rintro _ h9_1 ⟨rfl, e9_1⟩
  rw [e9_1]
  refine w_eq (st' := [.int (-1)]) rfl ?_
  refine w_aload_n d_LW_law_218 rfl rfl ?_
  refine w_aload_n d_LW_law_219 rfl rfl ?_
  refine w_iload_n d_LW_law_220 rfl ?_
  refine w_iconst (v := nI 1) d_LW_law_221 (by decide) ?_
  refine w_iadd d_LW_law_222 ?_
  refine w_topi (y := nI (i + 1)) (nI_add _ _) ?_
  refine w_ti d_LW_law_223 hs (vp_in_nI (by omega) (by omega)) ?_
  refine w_topi (y := x1) (by rw [nI_clamp (by omega)]; exact e1) ?_
  refine w_callV (as := [.int (x1)]) (st := [.int (-1)]) d_LW_law_224 yM_MO_print l_LW_39 vM_MO_print m0 rfl rfl rfl rfl (m_MO_printB hmo hx1) (by decide) (by decide) (by decide) (by decide) (Nat.le_of_ble_eq_true rfl) ?_
  rintro _ h9_2 ⟨rfl, e9_2⟩
  rw [e9_2]
  refine w_eq (st' := [.int (-1), .int (-1)]) rfl ?_
  refine w_icmp_eq (tgt := 581) d_LW_law_227 rfl (fun _ => ?_) (fun z => absurd rfl z)
  exact K _ _ _ _ _ a
set_option maxHeartbeats 4000000 in
set_option maxRecDepth 100000 in
theorem lw_6G (hT : xTab X) {h : wH} {t : List Nat} {G : gG} {EE SS : Nat → List Nat} {xs : Nat → Int32} {L i : Nat} (hs : (xo X)[13]? = some (L, xs)) (hL : L ≤ 2048) (hi : i + 4 ≤ L) (a : LR h t G EE SS) (K : ∀ (h' : wH) (t' : List Nat) (G' : gG) (EE' SS' : Nat → List Nat), LR h' t' G' EE' SS' → WP X (M_LW_law nm) room_1 68 E 68 10981 581 [some (.ref (1000 + 13)), some (.ref 0), some (.ref 57), some (.int (nI i))] [] h') {r : Nat} (hr : r < 3) {s : Nat} (hr2 : s < 3) {how : Nat} (hh : how ≤ 3) (e1 : xs (i + 1) = nI r) (e2 : xs (i + 2) = nI s) (e3 : xs (i + 3) = nI how) : WP X (M_LW_law nm) room_1 68 E 68 10981 232 [some (.ref (1000 + 13)), some (.ref 0), some (.ref 57), some (.int (nI i))] [] h := by
  obtain ⟨hcp, hmo, hg, hrel, e11, f11⟩ := id a
  obtain ⟨sp, Es, Ss, pr, hq⟩ := id hcp
  have c0 := hq.1
  obtain ⟨ap0, gd0, dp0, wr0, fi0, m0⟩ := hmo.1
  have hmk := a.mok
  have ht := hg.1
  have t60 : t.length ≤ 60 := hmo.2.1.choose_spec.2.1
  have hS := sR_mk (how := how) (hrel r hr).2 (hrel s hr2).2
  have hSl := sR_len hS
  have hE : eCmb how (EE r) (EE s) = eCmb how (G r).1 (G s).1 := by rw [(hrel r hr).1, (hrel s hr2).1]
  refine w_aload_n d_LW_law_232 rfl rfl ?_
  refine w_aload_n d_LW_law_233 rfl rfl ?_
  refine w_iload_n d_LW_law_234 rfl ?_
  refine w_iconst (v := nI 1) d_LW_law_235 (by decide) ?_
  refine w_iadd d_LW_law_236 ?_
  refine w_topi (y := nI (i + 1)) (nI_add _ _) ?_
  refine w_ti d_LW_law_237 hs (vp_in_nI (by omega) (by omega)) ?_
  refine w_topi (y := nI r) (by rw [nI_clamp (by omega)]; exact e1) ?_
  refine w_aload_n d_LW_law_238 rfl rfl ?_
  refine w_iload_n d_LW_law_239 rfl ?_
  refine w_iconst (v := nI 2) d_LW_law_240 (by decide) ?_
  refine w_iadd d_LW_law_241 ?_
  refine w_topi (y := nI (i + 2)) (nI_add _ _) ?_
  refine w_ti d_LW_law_242 hs (vp_in_nI (by omega) (by omega)) ?_
  refine w_topi (y := nI s) (by rw [nI_clamp (by omega)]; exact e2) ?_
  refine w_aload_n d_LW_law_243 rfl rfl ?_
  refine w_iload_n d_LW_law_244 rfl ?_
  refine w_iconst (v := nI 3) d_LW_law_245 (by decide) ?_
  refine w_iadd d_LW_law_246 ?_
  refine w_topi (y := nI (i + 3)) (nI_add _ _) ?_
  refine w_ti d_LW_law_247 hs (vp_in_nI (by omega) (by omega)) ?_
  refine w_topi (y := nI how) (by rw [nI_clamp (by omega)]; exact e3) ?_
  refine w_callV (as := [.int (nI r), .int (nI s), .int (nI how)]) (st := []) d_LW_law_248 yM_CP_combine l_LW_40 vM_CP_combine c0 rfl rfl rfl rfl (m_CP_combineG hq hg hr hr2 hh) (by decide) (by decide) (by decide) (by decide) (Nat.le_of_ble_eq_true rfl) ?_
  rintro _ h1 ⟨rfl, hcp1, o1⟩
  refine w_eq (st' := [.int (bI (decide ((eCmb how (G r).1 (G s).1).length ≤ 200 ∧ (sCmb how (G r).2 (G s).2).length ≤ 8)))]) rfl ?_
  have m1 := (o1 57 (by omega)).trans m0
  refine w_aload_n d_LW_law_251 rfl rfl ?_
  refine w_aload_n d_LW_law_252 rfl rfl ?_
  refine w_iload_n d_LW_law_253 rfl ?_
  refine w_iconst (v := nI 1) d_LW_law_254 (by decide) ?_
  refine w_iadd d_LW_law_255 ?_
  refine w_topi (y := nI (i + 1)) (nI_add _ _) ?_
  refine w_ti d_LW_law_256 hs (vp_in_nI (by omega) (by omega)) ?_
  refine w_topi (y := nI r) (by rw [nI_clamp (by omega)]; exact e1) ?_
  refine w_aload_n d_LW_law_257 rfl rfl ?_
  refine w_iload_n d_LW_law_258 rfl ?_
  refine w_iconst (v := nI 2) d_LW_law_259 (by decide) ?_
  refine w_iadd d_LW_law_260 ?_
  refine w_topi (y := nI (i + 2)) (nI_add _ _) ?_
  refine w_ti d_LW_law_261 hs (vp_in_nI (by omega) (by omega)) ?_
  refine w_topi (y := nI s) (by rw [nI_clamp (by omega)]; exact e2) ?_
  refine w_aload_n d_LW_law_262 rfl rfl ?_
  refine w_iload_n d_LW_law_263 rfl ?_
  refine w_iconst (v := nI 3) d_LW_law_264 (by decide) ?_
  refine w_iadd d_LW_law_265 ?_
  refine w_topi (y := nI (i + 3)) (nI_add _ _) ?_
  refine w_ti d_LW_law_266 hs (vp_in_nI (by omega) (by omega)) ?_
  refine w_topi (y := nI how) (by rw [nI_clamp (by omega)]; exact e3) ?_
  refine w_callV (as := [.int (nI r), .int (nI s), .int (nI how)]) (st := [.int (bI (decide ((eCmb how (G r).1 (G s).1).length ≤ 200 ∧ (sCmb how (G r).2 (G s).2).length ≤ 8)))]) d_LW_law_267 yM_MO_combine l_LW_44 vM_MO_combine m1 rfl rfl rfl rfl (m_MO_combineG (hmo.off o1) hmk hr hr2 hh) (by decide) (by decide) (by decide) (by decide) (Nat.le_of_ble_eq_true rfl) ?_
  rintro _ h2 ⟨rfl, o2, F2, T2, hmo2, q2, s2, j2⟩
  refine w_eq (st' := [.int (bI (decide ((eCmb how (EE r) (EE s)).length ≤ 200 ∧ (mkS how (SS r) (SS s)).length ≤ 8))), .int (bI (decide ((eCmb how (G r).1 (G s).1).length ≤ 200 ∧ (sCmb how (G r).2 (G s).2).length ≤ 8)))]) rfl ?_
  refine w_icmp_eq (tgt := 581) d_LW_law_270 rfl (fun _ => ?_) (fun z => absurd (by rw [hE, ← hSl]) z)
  rw [hE, ← hSl] at q2 s2
  have hj := j2 11 (by omega) (Or.inr rfl)
  by_cases hc : (eCmb how (G r).1 (G s).1).length ≤ 200 ∧ (sCmb how (G r).2 (G s).2).length ≤ 8
  · rw [if_pos hc] at hcp1 q2 s2
    have hi9 := iOk_mg (how := how) (hg.i hr) (hg.i hr2) hc.2
    exact K _ t _ F2 T2 ⟨hcp1.off o2, hmo2, gOk_up hg ⟨hi9.1, hc.1, hi9.2.1, hi9.2.2.1, hi9.2.2.2⟩, rel_up hrel q2 (by rw [s2]; exact hS) j2, hj.1.trans e11, hj.2.trans f11⟩
  · rw [if_neg hc] at hcp1 q2 s2
    exact K _ t G F2 T2 ⟨hcp1.off o2, hmo2, hg, rel_same hrel q2 s2 j2, hj.1.trans e11, hj.2.trans f11⟩
set_option maxHeartbeats 4000000 in
set_option maxRecDepth 100000 in
theorem lw_6B1 (hT : xTab X) {h : wH} {t : List Nat} {G : gG} {EE SS : Nat → List Nat} {xs : Nat → Int32} {L i : Nat} (hs : (xo X)[13]? = some (L, xs)) (hL : L ≤ 2048) (hi : i + 4 ≤ L) (a : LR h t G EE SS) (K : ∀ (h' : wH) (t' : List Nat) (G' : gG) (EE' SS' : Nat → List Nat), LR h' t' G' EE' SS' → WP X (M_LW_law nm) room_1 68 E 68 10981 581 [some (.ref (1000 + 13)), some (.ref 0), some (.ref 57), some (.int (nI i))] [] h') {r : Nat} (hr : r < 3) {x2 : Int32} (hx2 : ¬ (0 ≤ x2 ∧ x2 < nI 3)) {x3 : Int32} (e1 : xs (i + 1) = nI r) (e2 : xs (i + 2) = x2) (e3 : xs (i + 3) = x3) : WP X (M_LW_law nm) room_1 68 E 68 10981 232 [some (.ref (1000 + 13)), some (.ref 0), some (.ref 57), some (.int (nI i))] [] h := by
  obtain ⟨hcp, hmo, hg, hrel, e11, f11⟩ := id a
  obtain ⟨sp, Es, Ss, pr, hq⟩ := id hcp
  have c0 := hq.1
  obtain ⟨ap0, gd0, dp0, wr0, fi0, m0⟩ := hmo.1
  have hmk := a.mok
  have ht := hg.1
  have t60 : t.length ≤ 60 := hmo.2.1.choose_spec.2.1
  refine w_aload_n d_LW_law_232 rfl rfl ?_
  refine w_aload_n d_LW_law_233 rfl rfl ?_
  refine w_iload_n d_LW_law_234 rfl ?_
  refine w_iconst (v := nI 1) d_LW_law_235 (by decide) ?_
  refine w_iadd d_LW_law_236 ?_
  refine w_topi (y := nI (i + 1)) (nI_add _ _) ?_
  refine w_ti d_LW_law_237 hs (vp_in_nI (by omega) (by omega)) ?_
  refine w_topi (y := nI r) (by rw [nI_clamp (by omega)]; exact e1) ?_
  refine w_aload_n d_LW_law_238 rfl rfl ?_
  refine w_iload_n d_LW_law_239 rfl ?_
  refine w_iconst (v := nI 2) d_LW_law_240 (by decide) ?_
  refine w_iadd d_LW_law_241 ?_
  refine w_topi (y := nI (i + 2)) (nI_add _ _) ?_
  refine w_ti d_LW_law_242 hs (vp_in_nI (by omega) (by omega)) ?_
  refine w_topi (y := x2) (by rw [nI_clamp (by omega)]; exact e2) ?_
  refine w_aload_n d_LW_law_243 rfl rfl ?_
  refine w_iload_n d_LW_law_244 rfl ?_
  refine w_iconst (v := nI 3) d_LW_law_245 (by decide) ?_
  refine w_iadd d_LW_law_246 ?_
  refine w_topi (y := nI (i + 3)) (nI_add _ _) ?_
  refine w_ti d_LW_law_247 hs (vp_in_nI (by omega) (by omega)) ?_
  refine w_topi (y := x3) (by rw [nI_clamp (by omega)]; exact e3) ?_
  refine w_callV (as := [.int (nI r), .int (x2), .int (x3)]) (st := []) d_LW_law_248 yM_CP_combine l_LW_40 vM_CP_combine c0 rfl rfl rfl rfl (m_CP_combineB1 hq hr hx2) (by decide) (by decide) (by decide) (by decide) (Nat.le_of_ble_eq_true rfl) ?_
  rintro _ h9_1 ⟨rfl, e9_1⟩
  rw [e9_1]
  refine w_eq (st' := [.int (bI false)]) rfl ?_
  refine w_aload_n d_LW_law_251 rfl rfl ?_
  refine w_aload_n d_LW_law_252 rfl rfl ?_
  refine w_iload_n d_LW_law_253 rfl ?_
  refine w_iconst (v := nI 1) d_LW_law_254 (by decide) ?_
  refine w_iadd d_LW_law_255 ?_
  refine w_topi (y := nI (i + 1)) (nI_add _ _) ?_
  refine w_ti d_LW_law_256 hs (vp_in_nI (by omega) (by omega)) ?_
  refine w_topi (y := nI r) (by rw [nI_clamp (by omega)]; exact e1) ?_
  refine w_aload_n d_LW_law_257 rfl rfl ?_
  refine w_iload_n d_LW_law_258 rfl ?_
  refine w_iconst (v := nI 2) d_LW_law_259 (by decide) ?_
  refine w_iadd d_LW_law_260 ?_
  refine w_topi (y := nI (i + 2)) (nI_add _ _) ?_
  refine w_ti d_LW_law_261 hs (vp_in_nI (by omega) (by omega)) ?_
  refine w_topi (y := x2) (by rw [nI_clamp (by omega)]; exact e2) ?_
  refine w_aload_n d_LW_law_262 rfl rfl ?_
  refine w_iload_n d_LW_law_263 rfl ?_
  refine w_iconst (v := nI 3) d_LW_law_264 (by decide) ?_
  refine w_iadd d_LW_law_265 ?_
  refine w_topi (y := nI (i + 3)) (nI_add _ _) ?_
  refine w_ti d_LW_law_266 hs (vp_in_nI (by omega) (by omega)) ?_
  refine w_topi (y := x3) (by rw [nI_clamp (by omega)]; exact e3) ?_
  refine w_callV (as := [.int (nI r), .int (x2), .int (x3)]) (st := [.int (bI false)]) d_LW_law_267 yM_MO_combine l_LW_44 vM_MO_combine m0 rfl rfl rfl rfl (m_MO_combineB1 hmo hr hx2) (by decide) (by decide) (by decide) (by decide) (Nat.le_of_ble_eq_true rfl) ?_
  rintro _ h9_2 ⟨rfl, e9_2⟩
  rw [e9_2]
  refine w_eq (st' := [.int (bI false), .int (bI false)]) rfl ?_
  refine w_icmp_eq (tgt := 581) d_LW_law_270 rfl (fun _ => ?_) (fun z => absurd rfl z)
  exact K _ _ _ _ _ a
set_option maxHeartbeats 4000000 in
set_option maxRecDepth 100000 in
theorem lw_6B0 (hT : xTab X) {h : wH} {t : List Nat} {G : gG} {EE SS : Nat → List Nat} {xs : Nat → Int32} {L i : Nat} (hs : (xo X)[13]? = some (L, xs)) (hL : L ≤ 2048) (hi : i + 4 ≤ L) (a : LR h t G EE SS) (K : ∀ (h' : wH) (t' : List Nat) (G' : gG) (EE' SS' : Nat → List Nat), LR h' t' G' EE' SS' → WP X (M_LW_law nm) room_1 68 E 68 10981 581 [some (.ref (1000 + 13)), some (.ref 0), some (.ref 57), some (.int (nI i))] [] h') {x1 : Int32} (hx1 : ¬ (0 ≤ x1 ∧ x1 < nI 3)) {s : Nat} (hr2 : s < 3) {x3 : Int32} (e1 : xs (i + 1) = x1) (e2 : xs (i + 2) = nI s) (e3 : xs (i + 3) = x3) : WP X (M_LW_law nm) room_1 68 E 68 10981 232 [some (.ref (1000 + 13)), some (.ref 0), some (.ref 57), some (.int (nI i))] [] h := by
  obtain ⟨hcp, hmo, hg, hrel, e11, f11⟩ := id a
  obtain ⟨sp, Es, Ss, pr, hq⟩ := id hcp
  have c0 := hq.1
  obtain ⟨ap0, gd0, dp0, wr0, fi0, m0⟩ := hmo.1
  have hmk := a.mok
  have ht := hg.1
  have t60 : t.length ≤ 60 := hmo.2.1.choose_spec.2.1
  refine w_aload_n d_LW_law_232 rfl rfl ?_
  refine w_aload_n d_LW_law_233 rfl rfl ?_
  refine w_iload_n d_LW_law_234 rfl ?_
  refine w_iconst (v := nI 1) d_LW_law_235 (by decide) ?_
  refine w_iadd d_LW_law_236 ?_
  refine w_topi (y := nI (i + 1)) (nI_add _ _) ?_
  refine w_ti d_LW_law_237 hs (vp_in_nI (by omega) (by omega)) ?_
  refine w_topi (y := x1) (by rw [nI_clamp (by omega)]; exact e1) ?_
  refine w_aload_n d_LW_law_238 rfl rfl ?_
  refine w_iload_n d_LW_law_239 rfl ?_
  refine w_iconst (v := nI 2) d_LW_law_240 (by decide) ?_
  refine w_iadd d_LW_law_241 ?_
  refine w_topi (y := nI (i + 2)) (nI_add _ _) ?_
  refine w_ti d_LW_law_242 hs (vp_in_nI (by omega) (by omega)) ?_
  refine w_topi (y := nI s) (by rw [nI_clamp (by omega)]; exact e2) ?_
  refine w_aload_n d_LW_law_243 rfl rfl ?_
  refine w_iload_n d_LW_law_244 rfl ?_
  refine w_iconst (v := nI 3) d_LW_law_245 (by decide) ?_
  refine w_iadd d_LW_law_246 ?_
  refine w_topi (y := nI (i + 3)) (nI_add _ _) ?_
  refine w_ti d_LW_law_247 hs (vp_in_nI (by omega) (by omega)) ?_
  refine w_topi (y := x3) (by rw [nI_clamp (by omega)]; exact e3) ?_
  refine w_callV (as := [.int (x1), .int (nI s), .int (x3)]) (st := []) d_LW_law_248 yM_CP_combine l_LW_40 vM_CP_combine c0 rfl rfl rfl rfl (m_CP_combineB0 hq hr2 hx1) (by decide) (by decide) (by decide) (by decide) (Nat.le_of_ble_eq_true rfl) ?_
  rintro _ h9_1 ⟨rfl, e9_1⟩
  rw [e9_1]
  refine w_eq (st' := [.int (bI false)]) rfl ?_
  refine w_aload_n d_LW_law_251 rfl rfl ?_
  refine w_aload_n d_LW_law_252 rfl rfl ?_
  refine w_iload_n d_LW_law_253 rfl ?_
  refine w_iconst (v := nI 1) d_LW_law_254 (by decide) ?_
  refine w_iadd d_LW_law_255 ?_
  refine w_topi (y := nI (i + 1)) (nI_add _ _) ?_
  refine w_ti d_LW_law_256 hs (vp_in_nI (by omega) (by omega)) ?_
  refine w_topi (y := x1) (by rw [nI_clamp (by omega)]; exact e1) ?_
  refine w_aload_n d_LW_law_257 rfl rfl ?_
  refine w_iload_n d_LW_law_258 rfl ?_
  refine w_iconst (v := nI 2) d_LW_law_259 (by decide) ?_
  refine w_iadd d_LW_law_260 ?_
  refine w_topi (y := nI (i + 2)) (nI_add _ _) ?_
  refine w_ti d_LW_law_261 hs (vp_in_nI (by omega) (by omega)) ?_
  refine w_topi (y := nI s) (by rw [nI_clamp (by omega)]; exact e2) ?_
  refine w_aload_n d_LW_law_262 rfl rfl ?_
  refine w_iload_n d_LW_law_263 rfl ?_
  refine w_iconst (v := nI 3) d_LW_law_264 (by decide) ?_
  refine w_iadd d_LW_law_265 ?_
  refine w_topi (y := nI (i + 3)) (nI_add _ _) ?_
  refine w_ti d_LW_law_266 hs (vp_in_nI (by omega) (by omega)) ?_
  refine w_topi (y := x3) (by rw [nI_clamp (by omega)]; exact e3) ?_
  refine w_callV (as := [.int (x1), .int (nI s), .int (x3)]) (st := [.int (bI false)]) d_LW_law_267 yM_MO_combine l_LW_44 vM_MO_combine m0 rfl rfl rfl rfl (m_MO_combineB0 hmo hx1) (by decide) (by decide) (by decide) (by decide) (Nat.le_of_ble_eq_true rfl) ?_
  rintro _ h9_2 ⟨rfl, e9_2⟩
  rw [e9_2]
  refine w_eq (st' := [.int (bI false), .int (bI false)]) rfl ?_
  refine w_icmp_eq (tgt := 581) d_LW_law_270 rfl (fun _ => ?_) (fun z => absurd rfl z)
  exact K _ _ _ _ _ a
set_option maxHeartbeats 4000000 in
set_option maxRecDepth 100000 in
theorem lw_6B2 (hT : xTab X) {h : wH} {t : List Nat} {G : gG} {EE SS : Nat → List Nat} {xs : Nat → Int32} {L i : Nat} (hs : (xo X)[13]? = some (L, xs)) (hL : L ≤ 2048) (hi : i + 4 ≤ L) (a : LR h t G EE SS) (K : ∀ (h' : wH) (t' : List Nat) (G' : gG) (EE' SS' : Nat → List Nat), LR h' t' G' EE' SS' → WP X (M_LW_law nm) room_1 68 E 68 10981 581 [some (.ref (1000 + 13)), some (.ref 0), some (.ref 57), some (.int (nI i))] [] h') {x1 : Int32} (hx1 : ¬ (0 ≤ x1 ∧ x1 < nI 3)) {x2 : Int32} (hx2 : ¬ (0 ≤ x2 ∧ x2 < nI 3)) {x3 : Int32} (e1 : xs (i + 1) = x1) (e2 : xs (i + 2) = x2) (e3 : xs (i + 3) = x3) : WP X (M_LW_law nm) room_1 68 E 68 10981 232 [some (.ref (1000 + 13)), some (.ref 0), some (.ref 57), some (.int (nI i))] [] h := by
  obtain ⟨hcp, hmo, hg, hrel, e11, f11⟩ := id a
  obtain ⟨sp, Es, Ss, pr, hq⟩ := id hcp
  have c0 := hq.1
  obtain ⟨ap0, gd0, dp0, wr0, fi0, m0⟩ := hmo.1
  have hmk := a.mok
  have ht := hg.1
  have t60 : t.length ≤ 60 := hmo.2.1.choose_spec.2.1
  refine w_aload_n d_LW_law_232 rfl rfl ?_
  refine w_aload_n d_LW_law_233 rfl rfl ?_
  refine w_iload_n d_LW_law_234 rfl ?_
  refine w_iconst (v := nI 1) d_LW_law_235 (by decide) ?_
  refine w_iadd d_LW_law_236 ?_
  refine w_topi (y := nI (i + 1)) (nI_add _ _) ?_
  refine w_ti d_LW_law_237 hs (vp_in_nI (by omega) (by omega)) ?_
  refine w_topi (y := x1) (by rw [nI_clamp (by omega)]; exact e1) ?_
  refine w_aload_n d_LW_law_238 rfl rfl ?_
  refine w_iload_n d_LW_law_239 rfl ?_
  refine w_iconst (v := nI 2) d_LW_law_240 (by decide) ?_
  refine w_iadd d_LW_law_241 ?_
  refine w_topi (y := nI (i + 2)) (nI_add _ _) ?_
  refine w_ti d_LW_law_242 hs (vp_in_nI (by omega) (by omega)) ?_
  refine w_topi (y := x2) (by rw [nI_clamp (by omega)]; exact e2) ?_
  refine w_aload_n d_LW_law_243 rfl rfl ?_
  refine w_iload_n d_LW_law_244 rfl ?_
  refine w_iconst (v := nI 3) d_LW_law_245 (by decide) ?_
  refine w_iadd d_LW_law_246 ?_
  refine w_topi (y := nI (i + 3)) (nI_add _ _) ?_
  refine w_ti d_LW_law_247 hs (vp_in_nI (by omega) (by omega)) ?_
  refine w_topi (y := x3) (by rw [nI_clamp (by omega)]; exact e3) ?_
  refine w_callV (as := [.int (x1), .int (x2), .int (x3)]) (st := []) d_LW_law_248 yM_CP_combine l_LW_40 vM_CP_combine c0 rfl rfl rfl rfl (m_CP_combineB2 hq hx1 hx2) (by decide) (by decide) (by decide) (by decide) (Nat.le_of_ble_eq_true rfl) ?_
  rintro _ h9_1 ⟨rfl, e9_1⟩
  rw [e9_1]
  refine w_eq (st' := [.int (bI false)]) rfl ?_
  refine w_aload_n d_LW_law_251 rfl rfl ?_
  refine w_aload_n d_LW_law_252 rfl rfl ?_
  refine w_iload_n d_LW_law_253 rfl ?_
  refine w_iconst (v := nI 1) d_LW_law_254 (by decide) ?_
  refine w_iadd d_LW_law_255 ?_
  refine w_topi (y := nI (i + 1)) (nI_add _ _) ?_
  refine w_ti d_LW_law_256 hs (vp_in_nI (by omega) (by omega)) ?_
  refine w_topi (y := x1) (by rw [nI_clamp (by omega)]; exact e1) ?_
  refine w_aload_n d_LW_law_257 rfl rfl ?_
  refine w_iload_n d_LW_law_258 rfl ?_
  refine w_iconst (v := nI 2) d_LW_law_259 (by decide) ?_
  refine w_iadd d_LW_law_260 ?_
  refine w_topi (y := nI (i + 2)) (nI_add _ _) ?_
  refine w_ti d_LW_law_261 hs (vp_in_nI (by omega) (by omega)) ?_
  refine w_topi (y := x2) (by rw [nI_clamp (by omega)]; exact e2) ?_
  refine w_aload_n d_LW_law_262 rfl rfl ?_
  refine w_iload_n d_LW_law_263 rfl ?_
  refine w_iconst (v := nI 3) d_LW_law_264 (by decide) ?_
  refine w_iadd d_LW_law_265 ?_
  refine w_topi (y := nI (i + 3)) (nI_add _ _) ?_
  refine w_ti d_LW_law_266 hs (vp_in_nI (by omega) (by omega)) ?_
  refine w_topi (y := x3) (by rw [nI_clamp (by omega)]; exact e3) ?_
  refine w_callV (as := [.int (x1), .int (x2), .int (x3)]) (st := [.int (bI false)]) d_LW_law_267 yM_MO_combine l_LW_44 vM_MO_combine m0 rfl rfl rfl rfl (m_MO_combineB0 hmo hx1) (by decide) (by decide) (by decide) (by decide) (Nat.le_of_ble_eq_true rfl) ?_
  rintro _ h9_2 ⟨rfl, e9_2⟩
  rw [e9_2]
  refine w_eq (st' := [.int (bI false), .int (bI false)]) rfl ?_
  refine w_icmp_eq (tgt := 581) d_LW_law_270 rfl (fun _ => ?_) (fun z => absurd rfl z)
  exact K _ _ _ _ _ a
set_option maxHeartbeats 4000000 in
set_option maxRecDepth 100000 in
theorem lw_6B3 (hT : xTab X) {h : wH} {t : List Nat} {G : gG} {EE SS : Nat → List Nat} {xs : Nat → Int32} {L i : Nat} (hs : (xo X)[13]? = some (L, xs)) (hL : L ≤ 2048) (hi : i + 4 ≤ L) (a : LR h t G EE SS) (K : ∀ (h' : wH) (t' : List Nat) (G' : gG) (EE' SS' : Nat → List Nat), LR h' t' G' EE' SS' → WP X (M_LW_law nm) room_1 68 E 68 10981 581 [some (.ref (1000 + 13)), some (.ref 0), some (.ref 57), some (.int (nI i))] [] h') {r : Nat} (hr : r < 3) {s : Nat} (hr2 : s < 3) {x3 : Int32} (hx3 : ¬ (0 ≤ x3 ∧ x3 ≤ nI 3)) (e1 : xs (i + 1) = nI r) (e2 : xs (i + 2) = nI s) (e3 : xs (i + 3) = x3) : WP X (M_LW_law nm) room_1 68 E 68 10981 232 [some (.ref (1000 + 13)), some (.ref 0), some (.ref 57), some (.int (nI i))] [] h := by
  obtain ⟨hcp, hmo, hg, hrel, e11, f11⟩ := id a
  obtain ⟨sp, Es, Ss, pr, hq⟩ := id hcp
  have c0 := hq.1
  obtain ⟨ap0, gd0, dp0, wr0, fi0, m0⟩ := hmo.1
  have hmk := a.mok
  have ht := hg.1
  have t60 : t.length ≤ 60 := hmo.2.1.choose_spec.2.1
  refine w_aload_n d_LW_law_232 rfl rfl ?_
  refine w_aload_n d_LW_law_233 rfl rfl ?_
  refine w_iload_n d_LW_law_234 rfl ?_
  refine w_iconst (v := nI 1) d_LW_law_235 (by decide) ?_
  refine w_iadd d_LW_law_236 ?_
  refine w_topi (y := nI (i + 1)) (nI_add _ _) ?_
  refine w_ti d_LW_law_237 hs (vp_in_nI (by omega) (by omega)) ?_
  refine w_topi (y := nI r) (by rw [nI_clamp (by omega)]; exact e1) ?_
  refine w_aload_n d_LW_law_238 rfl rfl ?_
  refine w_iload_n d_LW_law_239 rfl ?_
  refine w_iconst (v := nI 2) d_LW_law_240 (by decide) ?_
  refine w_iadd d_LW_law_241 ?_
  refine w_topi (y := nI (i + 2)) (nI_add _ _) ?_
  refine w_ti d_LW_law_242 hs (vp_in_nI (by omega) (by omega)) ?_
  refine w_topi (y := nI s) (by rw [nI_clamp (by omega)]; exact e2) ?_
  refine w_aload_n d_LW_law_243 rfl rfl ?_
  refine w_iload_n d_LW_law_244 rfl ?_
  refine w_iconst (v := nI 3) d_LW_law_245 (by decide) ?_
  refine w_iadd d_LW_law_246 ?_
  refine w_topi (y := nI (i + 3)) (nI_add _ _) ?_
  refine w_ti d_LW_law_247 hs (vp_in_nI (by omega) (by omega)) ?_
  refine w_topi (y := x3) (by rw [nI_clamp (by omega)]; exact e3) ?_
  refine w_callV (as := [.int (nI r), .int (nI s), .int (x3)]) (st := []) d_LW_law_248 yM_CP_combine l_LW_40 vM_CP_combine c0 rfl rfl rfl rfl (m_CP_combineB3 hq hr hr2 hx3) (by decide) (by decide) (by decide) (by decide) (Nat.le_of_ble_eq_true rfl) ?_
  rintro _ h9_1 ⟨rfl, e9_1⟩
  rw [e9_1]
  refine w_eq (st' := [.int (bI false)]) rfl ?_
  refine w_aload_n d_LW_law_251 rfl rfl ?_
  refine w_aload_n d_LW_law_252 rfl rfl ?_
  refine w_iload_n d_LW_law_253 rfl ?_
  refine w_iconst (v := nI 1) d_LW_law_254 (by decide) ?_
  refine w_iadd d_LW_law_255 ?_
  refine w_topi (y := nI (i + 1)) (nI_add _ _) ?_
  refine w_ti d_LW_law_256 hs (vp_in_nI (by omega) (by omega)) ?_
  refine w_topi (y := nI r) (by rw [nI_clamp (by omega)]; exact e1) ?_
  refine w_aload_n d_LW_law_257 rfl rfl ?_
  refine w_iload_n d_LW_law_258 rfl ?_
  refine w_iconst (v := nI 2) d_LW_law_259 (by decide) ?_
  refine w_iadd d_LW_law_260 ?_
  refine w_topi (y := nI (i + 2)) (nI_add _ _) ?_
  refine w_ti d_LW_law_261 hs (vp_in_nI (by omega) (by omega)) ?_
  refine w_topi (y := nI s) (by rw [nI_clamp (by omega)]; exact e2) ?_
  refine w_aload_n d_LW_law_262 rfl rfl ?_
  refine w_iload_n d_LW_law_263 rfl ?_
  refine w_iconst (v := nI 3) d_LW_law_264 (by decide) ?_
  refine w_iadd d_LW_law_265 ?_
  refine w_topi (y := nI (i + 3)) (nI_add _ _) ?_
  refine w_ti d_LW_law_266 hs (vp_in_nI (by omega) (by omega)) ?_
  refine w_topi (y := x3) (by rw [nI_clamp (by omega)]; exact e3) ?_
  refine w_callV (as := [.int (nI r), .int (nI s), .int (x3)]) (st := [.int (bI false)]) d_LW_law_267 yM_MO_combine l_LW_44 vM_MO_combine m0 rfl rfl rfl rfl (m_MO_combineB3 hmo hr hr2 hx3) (by decide) (by decide) (by decide) (by decide) (Nat.le_of_ble_eq_true rfl) ?_
  rintro _ h9_2 ⟨rfl, e9_2⟩
  rw [e9_2]
  refine w_eq (st' := [.int (bI false), .int (bI false)]) rfl ?_
  refine w_icmp_eq (tgt := 581) d_LW_law_270 rfl (fun _ => ?_) (fun z => absurd rfl z)
  exact K _ _ _ _ _ a
set_option maxHeartbeats 4000000 in
set_option maxRecDepth 100000 in
theorem lw_7G (hT : xTab X) {h : wH} {t : List Nat} {G : gG} {EE SS : Nat → List Nat} {xs : Nat → Int32} {L i : Nat} (hs : (xo X)[13]? = some (L, xs)) (hL : L ≤ 2048) (hi : i + 4 ≤ L) (a : LR h t G EE SS) (K : ∀ (h' : wH) (t' : List Nat) (G' : gG) (EE' SS' : Nat → List Nat), LR h' t' G' EE' SS' → WP X (M_LW_law nm) room_1 68 E 68 10981 581 [some (.ref (1000 + 13)), some (.ref 0), some (.ref 57), some (.int (nI i))] [] h') {r : Nat} (hr : r < 3) (hne : SS r = []) (e1 : xs (i + 1) = nI r) : WP X (M_LW_law nm) room_1 68 E 68 10981 275 [some (.ref (1000 + 13)), some (.ref 0), some (.ref 57), some (.int (nI i))] [] h := by
  obtain ⟨hcp, hmo, hg, hrel, e11, f11⟩ := id a
  obtain ⟨sp, Es, Ss, pr, hq⟩ := id hcp
  have c0 := hq.1
  obtain ⟨ap0, gd0, dp0, wr0, fi0, m0⟩ := hmo.1
  have hmk := a.mok
  have ht := hg.1
  have t60 : t.length ≤ 60 := hmo.2.1.choose_spec.2.1
  have hG0 := (sR_nl (hrel r hr).2).mpr hne
  refine w_aload_n d_LW_law_275 rfl rfl ?_
  refine w_aload_n d_LW_law_276 rfl rfl ?_
  refine w_iload_n d_LW_law_277 rfl ?_
  refine w_iconst (v := nI 1) d_LW_law_278 (by decide) ?_
  refine w_iadd d_LW_law_279 ?_
  refine w_topi (y := nI (i + 1)) (nI_add _ _) ?_
  refine w_ti d_LW_law_280 hs (vp_in_nI (by omega) (by omega)) ?_
  refine w_topi (y := nI r) (by rw [nI_clamp (by omega)]; exact e1) ?_
  refine w_callV (as := [.int (nI r)]) (st := []) d_LW_law_281 yM_CP_turn l_LW_45 vM_CP_turn c0 rfl rfl rfl rfl (m_CP_turnG hq hg hr) (by decide) (by decide) (by decide) (by decide) (Nat.le_of_ble_eq_true rfl) ?_
  rintro _ h1 ⟨rfl, hcp1, o1⟩
  refine w_eq (st' := [.int (bI (decide ((G r).2 = [] ∧ (eCmb 3 (G r).1 [0, 1114112]).length ≤ 200)))]) rfl ?_
  have m1 := (o1 57 (by omega)).trans m0
  refine w_aload_n d_LW_law_284 rfl rfl ?_
  refine w_aload_n d_LW_law_285 rfl rfl ?_
  refine w_iload_n d_LW_law_286 rfl ?_
  refine w_iconst (v := nI 1) d_LW_law_287 (by decide) ?_
  refine w_iadd d_LW_law_288 ?_
  refine w_topi (y := nI (i + 1)) (nI_add _ _) ?_
  refine w_ti d_LW_law_289 hs (vp_in_nI (by omega) (by omega)) ?_
  refine w_topi (y := nI r) (by rw [nI_clamp (by omega)]; exact e1) ?_
  refine w_callV (as := [.int (nI r)]) (st := [.int (bI (decide ((G r).2 = [] ∧ (eCmb 3 (G r).1 [0, 1114112]).length ≤ 200)))]) d_LW_law_290 yM_MO_turn l_LW_48 vM_MO_turn m1 rfl rfl rfl rfl (m_MO_turnG (hmo.off o1) hmk hr hne) (by decide) (by decide) (by decide) (by decide) (Nat.le_of_ble_eq_true rfl) ?_
  rintro _ h2 ⟨rfl, o2, F2, T2, hmo2, q2, s2, j2⟩
  refine w_eq (st' := [.int (bI (decide ((eCmb 3 (EE r) [0, 1114112]).length ≤ 200))), .int (bI (decide ((G r).2 = [] ∧ (eCmb 3 (G r).1 [0, 1114112]).length ≤ 200)))]) rfl ?_
  refine w_icmp_eq (tgt := 581) d_LW_law_293 rfl (fun _ => ?_) (fun z => absurd (by rw [(hrel r hr).1]; exact congrArg bI (decide_eq_decide.mpr ⟨fun z => z.2, fun z => ⟨hG0, z⟩⟩)) z)
  rw [(hrel r hr).1] at q2 s2
  have hj := j2 11 (by omega) (Or.inr rfl)
  by_cases hc : (eCmb 3 (G r).1 [0, 1114112]).length ≤ 200
  · rw [if_pos ⟨hG0, hc⟩] at hcp1
    rw [if_pos hc] at q2 s2
    exact K _ t _ F2 T2 ⟨hcp1.off o2, hmo2, gOk_up hg ⟨eCmb_ok _ _ _, hc, List.Pairwise.nil, (fun y hy => by cases hy), Nat.zero_le _⟩, rel_up hrel q2 (by rw [s2]; exact sR_nil) j2, hj.1.trans e11, hj.2.trans f11⟩
  · rw [if_neg (fun z => hc z.2)] at hcp1
    rw [if_neg hc] at q2 s2
    exact K _ t G F2 T2 ⟨hcp1.off o2, hmo2, hg, rel_same hrel (q2.trans (hrel r hr).1.symm) s2 j2, hj.1.trans e11, hj.2.trans f11⟩
set_option maxHeartbeats 4000000 in
set_option maxRecDepth 100000 in
theorem lw_7S (hT : xTab X) {h : wH} {t : List Nat} {G : gG} {EE SS : Nat → List Nat} {xs : Nat → Int32} {L i : Nat} (hs : (xo X)[13]? = some (L, xs)) (hL : L ≤ 2048) (hi : i + 4 ≤ L) (a : LR h t G EE SS) (K : ∀ (h' : wH) (t' : List Nat) (G' : gG) (EE' SS' : Nat → List Nat), LR h' t' G' EE' SS' → WP X (M_LW_law nm) room_1 68 E 68 10981 581 [some (.ref (1000 + 13)), some (.ref 0), some (.ref 57), some (.int (nI i))] [] h') {r : Nat} (hr : r < 3) (hne : SS r ≠ []) (e1 : xs (i + 1) = nI r) : WP X (M_LW_law nm) room_1 68 E 68 10981 275 [some (.ref (1000 + 13)), some (.ref 0), some (.ref 57), some (.int (nI i))] [] h := by
  obtain ⟨hcp, hmo, hg, hrel, e11, f11⟩ := id a
  obtain ⟨sp, Es, Ss, pr, hq⟩ := id hcp
  have c0 := hq.1
  obtain ⟨ap0, gd0, dp0, wr0, fi0, m0⟩ := hmo.1
  have hmk := a.mok
  have ht := hg.1
  have t60 : t.length ≤ 60 := hmo.2.1.choose_spec.2.1
  have hG0 : ¬ (G r).2 = [] := fun z => hne ((sR_nl (hrel r hr).2).mp z)
  refine w_aload_n d_LW_law_275 rfl rfl ?_
  refine w_aload_n d_LW_law_276 rfl rfl ?_
  refine w_iload_n d_LW_law_277 rfl ?_
  refine w_iconst (v := nI 1) d_LW_law_278 (by decide) ?_
  refine w_iadd d_LW_law_279 ?_
  refine w_topi (y := nI (i + 1)) (nI_add _ _) ?_
  refine w_ti d_LW_law_280 hs (vp_in_nI (by omega) (by omega)) ?_
  refine w_topi (y := nI r) (by rw [nI_clamp (by omega)]; exact e1) ?_
  refine w_callV (as := [.int (nI r)]) (st := []) d_LW_law_281 yM_CP_turn l_LW_45 vM_CP_turn c0 rfl rfl rfl rfl (m_CP_turnG hq hg hr) (by decide) (by decide) (by decide) (by decide) (Nat.le_of_ble_eq_true rfl) ?_
  rintro _ h1 ⟨rfl, hcp1, o1⟩
  refine w_eq (st' := [.int (bI (decide ((G r).2 = [] ∧ (eCmb 3 (G r).1 [0, 1114112]).length ≤ 200)))]) rfl ?_
  have m1 := (o1 57 (by omega)).trans m0
  refine w_aload_n d_LW_law_284 rfl rfl ?_
  refine w_aload_n d_LW_law_285 rfl rfl ?_
  refine w_iload_n d_LW_law_286 rfl ?_
  refine w_iconst (v := nI 1) d_LW_law_287 (by decide) ?_
  refine w_iadd d_LW_law_288 ?_
  refine w_topi (y := nI (i + 1)) (nI_add _ _) ?_
  refine w_ti d_LW_law_289 hs (vp_in_nI (by omega) (by omega)) ?_
  refine w_topi (y := nI r) (by rw [nI_clamp (by omega)]; exact e1) ?_
  refine w_callV (as := [.int (nI r)]) (st := [.int (bI (decide ((G r).2 = [] ∧ (eCmb 3 (G r).1 [0, 1114112]).length ≤ 200)))]) d_LW_law_290 yM_MO_turn l_LW_48 vM_MO_turn m1 rfl rfl rfl rfl (m_MO_turnS (hmo.off o1) hmk hr hne) (by decide) (by decide) (by decide) (by decide) (Nat.le_of_ble_eq_true rfl) ?_
  rintro _ h9_1 ⟨rfl, e9_1⟩
  rw [e9_1]
  refine w_eq (st' := [.int (bI false), .int (bI (decide ((G r).2 = [] ∧ (eCmb 3 (G r).1 [0, 1114112]).length ≤ 200)))]) rfl ?_
  refine w_icmp_eq (tgt := 581) d_LW_law_293 rfl (fun _ => ?_) (fun z => absurd (by rw [decide_eq_false (fun z => hG0 z.1)]) z)
  rw [if_neg (fun z => hG0 z.1)] at hcp1
  exact K _ t G EE SS ⟨hcp1, hmo.off o1, hg, hrel, e11, f11⟩
set_option maxHeartbeats 4000000 in
set_option maxRecDepth 100000 in
theorem lw_7B (hT : xTab X) {h : wH} {t : List Nat} {G : gG} {EE SS : Nat → List Nat} {xs : Nat → Int32} {L i : Nat} (hs : (xo X)[13]? = some (L, xs)) (hL : L ≤ 2048) (hi : i + 4 ≤ L) (a : LR h t G EE SS) (K : ∀ (h' : wH) (t' : List Nat) (G' : gG) (EE' SS' : Nat → List Nat), LR h' t' G' EE' SS' → WP X (M_LW_law nm) room_1 68 E 68 10981 581 [some (.ref (1000 + 13)), some (.ref 0), some (.ref 57), some (.int (nI i))] [] h') {x1 : Int32} (hx1 : ¬ (0 ≤ x1 ∧ x1 < nI 3)) (e1 : xs (i + 1) = x1) : WP X (M_LW_law nm) room_1 68 E 68 10981 275 [some (.ref (1000 + 13)), some (.ref 0), some (.ref 57), some (.int (nI i))] [] h := by
  obtain ⟨hcp, hmo, hg, hrel, e11, f11⟩ := id a
  obtain ⟨sp, Es, Ss, pr, hq⟩ := id hcp
  have c0 := hq.1
  obtain ⟨ap0, gd0, dp0, wr0, fi0, m0⟩ := hmo.1
  have hmk := a.mok
  have ht := hg.1
  have t60 : t.length ≤ 60 := hmo.2.1.choose_spec.2.1
  refine w_aload_n d_LW_law_275 rfl rfl ?_
  refine w_aload_n d_LW_law_276 rfl rfl ?_
  refine w_iload_n d_LW_law_277 rfl ?_
  refine w_iconst (v := nI 1) d_LW_law_278 (by decide) ?_
  refine w_iadd d_LW_law_279 ?_
  refine w_topi (y := nI (i + 1)) (nI_add _ _) ?_
  refine w_ti d_LW_law_280 hs (vp_in_nI (by omega) (by omega)) ?_
  refine w_topi (y := x1) (by rw [nI_clamp (by omega)]; exact e1) ?_
  refine w_callV (as := [.int (x1)]) (st := []) d_LW_law_281 yM_CP_turn l_LW_45 vM_CP_turn c0 rfl rfl rfl rfl (m_CP_turnB hq hx1) (by decide) (by decide) (by decide) (by decide) (Nat.le_of_ble_eq_true rfl) ?_
  rintro _ h9_1 ⟨rfl, e9_1⟩
  rw [e9_1]
  refine w_eq (st' := [.int (bI false)]) rfl ?_
  refine w_aload_n d_LW_law_284 rfl rfl ?_
  refine w_aload_n d_LW_law_285 rfl rfl ?_
  refine w_iload_n d_LW_law_286 rfl ?_
  refine w_iconst (v := nI 1) d_LW_law_287 (by decide) ?_
  refine w_iadd d_LW_law_288 ?_
  refine w_topi (y := nI (i + 1)) (nI_add _ _) ?_
  refine w_ti d_LW_law_289 hs (vp_in_nI (by omega) (by omega)) ?_
  refine w_topi (y := x1) (by rw [nI_clamp (by omega)]; exact e1) ?_
  refine w_callV (as := [.int (x1)]) (st := [.int (bI false)]) d_LW_law_290 yM_MO_turn l_LW_48 vM_MO_turn m0 rfl rfl rfl rfl (m_MO_turnB hmo hx1) (by decide) (by decide) (by decide) (by decide) (Nat.le_of_ble_eq_true rfl) ?_
  rintro _ h9_2 ⟨rfl, e9_2⟩
  rw [e9_2]
  refine w_eq (st' := [.int (bI false), .int (bI false)]) rfl ?_
  refine w_icmp_eq (tgt := 581) d_LW_law_293 rfl (fun _ => ?_) (fun z => absurd rfl z)
  exact K _ _ _ _ _ a
set_option maxHeartbeats 4000000 in
set_option maxRecDepth 100000 in
theorem lw_8G (hT : xTab X) {h : wH} {t : List Nat} {G : gG} {EE SS : Nat → List Nat} {xs : Nat → Int32} {L i : Nat} (hs : (xo X)[13]? = some (L, xs)) (hL : L ≤ 2048) (hi : i + 4 ≤ L) (a : LR h t G EE SS) (K : ∀ (h' : wH) (t' : List Nat) (G' : gG) (EE' SS' : Nat → List Nat), LR h' t' G' EE' SS' → WP X (M_LW_law nm) room_1 68 E 68 10981 581 [some (.ref (1000 + 13)), some (.ref 0), some (.ref 57), some (.int (nI i))] [] h') {r : Nat} (hr : r < 3) (e1 : xs (i + 1) = nI r) : WP X (M_LW_law nm) room_1 68 E 68 10981 298 [some (.ref (1000 + 13)), some (.ref 0), some (.ref 57), some (.int (nI i))] [] h := by
  obtain ⟨hcp, hmo, hg, hrel, e11, f11⟩ := id a
  obtain ⟨sp, Es, Ss, pr, hq⟩ := id hcp
  have c0 := hq.1
  obtain ⟨ap0, gd0, dp0, wr0, fi0, m0⟩ := hmo.1
  have hmk := a.mok
  have ht := hg.1
  have t60 : t.length ≤ 60 := hmo.2.1.choose_spec.2.1
  refine w_aload_n d_LW_law_298 rfl rfl ?_
  refine w_aload_n d_LW_law_299 rfl rfl ?_
  refine w_iload_n d_LW_law_300 rfl ?_
  refine w_iconst (v := nI 1) d_LW_law_301 (by decide) ?_
  refine w_iadd d_LW_law_302 ?_
  refine w_topi (y := nI (i + 1)) (nI_add _ _) ?_
  refine w_ti d_LW_law_303 hs (vp_in_nI (by omega) (by omega)) ?_
  refine w_topi (y := nI r) (by rw [nI_clamp (by omega)]; exact e1) ?_
  refine w_callV (as := [.int (nI r)]) (st := []) d_LW_law_304 yM_CP_close l_LW_49 vM_CP_close c0 rfl rfl rfl rfl (m_CP_closeG hT hq hg hr) (by decide) (by decide) (by decide) (by decide) (Nat.le_of_ble_eq_true rfl) ?_
  rintro _ h1 ⟨A, hA1, hA2, rfl, hcp1, o1⟩
  refine w_eq (st' := [.int (if (eCmb 0 (G r).1 A).length ≤ 200 then nI (eSize (eCmb 0 (G r).1 A)) - nI (eSize (G r).1) else -1)]) rfl ?_
  have m1 := (o1 57 (by omega)).trans m0
  refine w_aload_n d_LW_law_307 rfl rfl ?_
  refine w_aload_n d_LW_law_308 rfl rfl ?_
  refine w_iload_n d_LW_law_309 rfl ?_
  refine w_iconst (v := nI 1) d_LW_law_310 (by decide) ?_
  refine w_iadd d_LW_law_311 ?_
  refine w_topi (y := nI (i + 1)) (nI_add _ _) ?_
  refine w_ti d_LW_law_312 hs (vp_in_nI (by omega) (by omega)) ?_
  refine w_topi (y := nI r) (by rw [nI_clamp (by omega)]; exact e1) ?_
  refine w_callV (as := [.int (nI r)]) (st := [.int (if (eCmb 0 (G r).1 A).length ≤ 200 then nI (eSize (eCmb 0 (G r).1 A)) - nI (eSize (G r).1) else -1)]) d_LW_law_313 yM_MO_close l_LW_52 vM_MO_close m1 rfl rfl rfl rfl (m_MO_closeG (hmo.off o1) hmk hr) (by decide) (by decide) (by decide) (by decide) (Nat.le_of_ble_eq_true rfl) ?_
  rintro _ h2 ⟨C, hC1, hC2, rfl, o2, F2, T2, hmo2, q2, s2, j2⟩
  refine w_eq (st' := [.int (if C.length ≤ 200 then nI (eSize C) - nI (eSize (EE r)) else -1), .int (if (eCmb 0 (G r).1 A).length ≤ 200 then nI (eSize (eCmb 0 (G r).1 A)) - nI (eSize (G r).1) else -1)]) rfl ?_
  have hCA : C = eCmb 0 (G r).1 A := eCmb_eq (hg.2 r hr).1 hA1 hC1.1 (fun x => by rw [hC2, (hrel r hr).1, hA2]; rfl)
  refine w_icmp_eq (tgt := 581) d_LW_law_316 rfl (fun _ => ?_) (fun z => absurd (by rw [hCA, (hrel r hr).1]) z)
  rw [hCA] at q2
  have hj := j2 11 (by omega) (Or.inr rfl)
  by_cases hc : (eCmb 0 (G r).1 A).length ≤ 200
  · rw [if_pos hc] at hcp1 q2
    have q := hg.2 r hr
    exact K _ t _ F2 T2 ⟨hcp1.off o2, hmo2, gOk_up hg ⟨eCmb_ok _ _ _, hc, q.2.2.1, q.2.2.2.1, q.2.2.2.2⟩, rel_up hrel q2 (by rw [s2]; exact (hrel r hr).2) j2, hj.1.trans e11, hj.2.trans f11⟩
  · rw [if_neg hc] at hcp1 q2
    exact K _ t G F2 T2 ⟨hcp1.off o2, hmo2, hg, rel_same hrel q2 s2 j2, hj.1.trans e11, hj.2.trans f11⟩
set_option maxHeartbeats 4000000 in
set_option maxRecDepth 100000 in
theorem lw_8B (hT : xTab X) {h : wH} {t : List Nat} {G : gG} {EE SS : Nat → List Nat} {xs : Nat → Int32} {L i : Nat} (hs : (xo X)[13]? = some (L, xs)) (hL : L ≤ 2048) (hi : i + 4 ≤ L) (a : LR h t G EE SS) (K : ∀ (h' : wH) (t' : List Nat) (G' : gG) (EE' SS' : Nat → List Nat), LR h' t' G' EE' SS' → WP X (M_LW_law nm) room_1 68 E 68 10981 581 [some (.ref (1000 + 13)), some (.ref 0), some (.ref 57), some (.int (nI i))] [] h') {x1 : Int32} (hx1 : ¬ (0 ≤ x1 ∧ x1 < nI 3)) (e1 : xs (i + 1) = x1) : WP X (M_LW_law nm) room_1 68 E 68 10981 298 [some (.ref (1000 + 13)), some (.ref 0), some (.ref 57), some (.int (nI i))] [] h := by
  obtain ⟨hcp, hmo, hg, hrel, e11, f11⟩ := id a
  obtain ⟨sp, Es, Ss, pr, hq⟩ := id hcp
  have c0 := hq.1
  obtain ⟨ap0, gd0, dp0, wr0, fi0, m0⟩ := hmo.1
  have hmk := a.mok
  have ht := hg.1
  have t60 : t.length ≤ 60 := hmo.2.1.choose_spec.2.1
  refine w_aload_n d_LW_law_298 rfl rfl ?_
  refine w_aload_n d_LW_law_299 rfl rfl ?_
  refine w_iload_n d_LW_law_300 rfl ?_
  refine w_iconst (v := nI 1) d_LW_law_301 (by decide) ?_
  refine w_iadd d_LW_law_302 ?_
  refine w_topi (y := nI (i + 1)) (nI_add _ _) ?_
  refine w_ti d_LW_law_303 hs (vp_in_nI (by omega) (by omega)) ?_
  refine w_topi (y := x1) (by rw [nI_clamp (by omega)]; exact e1) ?_
  refine w_callV (as := [.int (x1)]) (st := []) d_LW_law_304 yM_CP_close l_LW_49 vM_CP_close c0 rfl rfl rfl rfl (m_CP_closeB hq hx1) (by decide) (by decide) (by decide) (by decide) (Nat.le_of_ble_eq_true rfl) ?_
  rintro _ h9_1 ⟨rfl, e9_1⟩
  rw [e9_1]
  refine w_eq (st' := [.int (-1)]) rfl ?_
  refine w_aload_n d_LW_law_307 rfl rfl ?_
  refine w_aload_n d_LW_law_308 rfl rfl ?_
  refine w_iload_n d_LW_law_309 rfl ?_
  refine w_iconst (v := nI 1) d_LW_law_310 (by decide) ?_
  refine w_iadd d_LW_law_311 ?_
  refine w_topi (y := nI (i + 1)) (nI_add _ _) ?_
  refine w_ti d_LW_law_312 hs (vp_in_nI (by omega) (by omega)) ?_
  refine w_topi (y := x1) (by rw [nI_clamp (by omega)]; exact e1) ?_
  refine w_callV (as := [.int (x1)]) (st := [.int (-1)]) d_LW_law_313 yM_MO_close l_LW_52 vM_MO_close m0 rfl rfl rfl rfl (m_MO_closeB hmo hx1) (by decide) (by decide) (by decide) (by decide) (Nat.le_of_ble_eq_true rfl) ?_
  rintro _ h9_2 ⟨rfl, e9_2⟩
  rw [e9_2]
  refine w_eq (st' := [.int (-1), .int (-1)]) rfl ?_
  refine w_icmp_eq (tgt := 581) d_LW_law_316 rfl (fun _ => ?_) (fun z => absurd rfl z)
  exact K _ _ _ _ _ a
set_option maxHeartbeats 4000000 in
set_option maxRecDepth 100000 in
theorem lw_9G (hT : xTab X) {h : wH} {t : List Nat} {G : gG} {EE SS : Nat → List Nat} {xs : Nat → Int32} {L i : Nat} (hs : (xo X)[13]? = some (L, xs)) (hL : L ≤ 2048) (hi : i + 4 ≤ L) (a : LR h t G EE SS) (K : ∀ (h' : wH) (t' : List Nat) (G' : gG) (EE' SS' : Nat → List Nat), LR h' t' G' EE' SS' → WP X (M_LW_law nm) room_1 68 E 68 10981 581 [some (.ref (1000 + 13)), some (.ref 0), some (.ref 57), some (.int (nI i))] [] h') {r : Nat} (hr : r < 3) {c : Nat} (hc : c < 1114112) (e1 : xs (i + 1) = nI r) (e2 : xs (i + 2) = nI c) : WP X (M_LW_law nm) room_1 68 E 68 10981 321 [some (.ref (1000 + 13)), some (.ref 0), some (.ref 57), some (.int (nI i))] [] h := by
  obtain ⟨hcp, hmo, hg, hrel, e11, f11⟩ := id a
  obtain ⟨sp, Es, Ss, pr, hq⟩ := id hcp
  have c0 := hq.1
  obtain ⟨ap0, gd0, dp0, wr0, fi0, m0⟩ := hmo.1
  have hmk := a.mok
  have ht := hg.1
  have t60 : t.length ≤ 60 := hmo.2.1.choose_spec.2.1
  refine w_aload_n d_LW_law_321 rfl rfl ?_
  refine w_aload_n d_LW_law_322 rfl rfl ?_
  refine w_iload_n d_LW_law_323 rfl ?_
  refine w_iconst (v := nI 1) d_LW_law_324 (by decide) ?_
  refine w_iadd d_LW_law_325 ?_
  refine w_topi (y := nI (i + 1)) (nI_add _ _) ?_
  refine w_ti d_LW_law_326 hs (vp_in_nI (by omega) (by omega)) ?_
  refine w_topi (y := nI r) (by rw [nI_clamp (by omega)]; exact e1) ?_
  refine w_aload_n d_LW_law_327 rfl rfl ?_
  refine w_iload_n d_LW_law_328 rfl ?_
  refine w_iconst (v := nI 2) d_LW_law_329 (by decide) ?_
  refine w_iadd d_LW_law_330 ?_
  refine w_topi (y := nI (i + 2)) (nI_add _ _) ?_
  refine w_ti d_LW_law_331 hs (vp_in_nI (by omega) (by omega)) ?_
  refine w_topi (y := nI c) (by rw [nI_clamp (by omega)]; exact e2) ?_
  refine w_callV (as := [.int (nI r), .int (nI c)]) (st := []) d_LW_law_332 yM_CP_contains l_LW_53 vM_CP_contains c0 rfl rfl rfl rfl (m_CP_containsG hq hg hr hc) (by decide) (by decide) (by decide) (by decide) (Nat.le_of_ble_eq_true rfl) ?_
  rintro _ h9_1 ⟨rfl, e9_1⟩
  rw [e9_1]
  refine w_eq (st' := [.int (bI (eMem (G r).1 c))]) rfl ?_
  refine w_aload_n d_LW_law_335 rfl rfl ?_
  refine w_aload_n d_LW_law_336 rfl rfl ?_
  refine w_iload_n d_LW_law_337 rfl ?_
  refine w_iconst (v := nI 1) d_LW_law_338 (by decide) ?_
  refine w_iadd d_LW_law_339 ?_
  refine w_topi (y := nI (i + 1)) (nI_add _ _) ?_
  refine w_ti d_LW_law_340 hs (vp_in_nI (by omega) (by omega)) ?_
  refine w_topi (y := nI r) (by rw [nI_clamp (by omega)]; exact e1) ?_
  refine w_aload_n d_LW_law_341 rfl rfl ?_
  refine w_iload_n d_LW_law_342 rfl ?_
  refine w_iconst (v := nI 2) d_LW_law_343 (by decide) ?_
  refine w_iadd d_LW_law_344 ?_
  refine w_topi (y := nI (i + 2)) (nI_add _ _) ?_
  refine w_ti d_LW_law_345 hs (vp_in_nI (by omega) (by omega)) ?_
  refine w_topi (y := nI c) (by rw [nI_clamp (by omega)]; exact e2) ?_
  refine w_callV (as := [.int (nI r), .int (nI c)]) (st := [.int (bI (eMem (G r).1 c))]) d_LW_law_346 yM_MO_contains l_LW_57 vM_MO_contains m0 rfl rfl rfl rfl (m_MO_containsG hmo hmk hr hc) (by decide) (by decide) (by decide) (by decide) (Nat.le_of_ble_eq_true rfl) ?_
  rintro _ h9_2 ⟨rfl, e9_2⟩
  rw [e9_2]
  refine w_eq (st' := [.int (bI (eMem (EE r) c)), .int (bI (eMem (G r).1 c))]) rfl ?_
  refine w_icmp_eq (tgt := 581) d_LW_law_349 rfl (fun _ => ?_) (fun z => absurd (by rw [(hrel r hr).1]) z)
  exact K _ _ _ _ _ a
set_option maxHeartbeats 4000000 in
set_option maxRecDepth 100000 in
theorem lw_9B (hT : xTab X) {h : wH} {t : List Nat} {G : gG} {EE SS : Nat → List Nat} {xs : Nat → Int32} {L i : Nat} (hs : (xo X)[13]? = some (L, xs)) (hL : L ≤ 2048) (hi : i + 4 ≤ L) (a : LR h t G EE SS) (K : ∀ (h' : wH) (t' : List Nat) (G' : gG) (EE' SS' : Nat → List Nat), LR h' t' G' EE' SS' → WP X (M_LW_law nm) room_1 68 E 68 10981 581 [some (.ref (1000 + 13)), some (.ref 0), some (.ref 57), some (.int (nI i))] [] h') {x1 : Int32} (hx1 : ¬ (0 ≤ x1 ∧ x1 < nI 3)) {x2 : Int32} (e1 : xs (i + 1) = x1) (e2 : xs (i + 2) = x2) : WP X (M_LW_law nm) room_1 68 E 68 10981 321 [some (.ref (1000 + 13)), some (.ref 0), some (.ref 57), some (.int (nI i))] [] h := by
  obtain ⟨hcp, hmo, hg, hrel, e11, f11⟩ := id a
  obtain ⟨sp, Es, Ss, pr, hq⟩ := id hcp
  have c0 := hq.1
  obtain ⟨ap0, gd0, dp0, wr0, fi0, m0⟩ := hmo.1
  have hmk := a.mok
  have ht := hg.1
  have t60 : t.length ≤ 60 := hmo.2.1.choose_spec.2.1
  refine w_aload_n d_LW_law_321 rfl rfl ?_
  refine w_aload_n d_LW_law_322 rfl rfl ?_
  refine w_iload_n d_LW_law_323 rfl ?_
  refine w_iconst (v := nI 1) d_LW_law_324 (by decide) ?_
  refine w_iadd d_LW_law_325 ?_
  refine w_topi (y := nI (i + 1)) (nI_add _ _) ?_
  refine w_ti d_LW_law_326 hs (vp_in_nI (by omega) (by omega)) ?_
  refine w_topi (y := x1) (by rw [nI_clamp (by omega)]; exact e1) ?_
  refine w_aload_n d_LW_law_327 rfl rfl ?_
  refine w_iload_n d_LW_law_328 rfl ?_
  refine w_iconst (v := nI 2) d_LW_law_329 (by decide) ?_
  refine w_iadd d_LW_law_330 ?_
  refine w_topi (y := nI (i + 2)) (nI_add _ _) ?_
  refine w_ti d_LW_law_331 hs (vp_in_nI (by omega) (by omega)) ?_
  refine w_topi (y := x2) (by rw [nI_clamp (by omega)]; exact e2) ?_
  refine w_callV (as := [.int (x1), .int (x2)]) (st := []) d_LW_law_332 yM_CP_contains l_LW_53 vM_CP_contains c0 rfl rfl rfl rfl (m_CP_containsB hq hx1) (by decide) (by decide) (by decide) (by decide) (Nat.le_of_ble_eq_true rfl) ?_
  rintro _ h9_1 ⟨rfl, e9_1⟩
  rw [e9_1]
  refine w_eq (st' := [.int (bI false)]) rfl ?_
  refine w_aload_n d_LW_law_335 rfl rfl ?_
  refine w_aload_n d_LW_law_336 rfl rfl ?_
  refine w_iload_n d_LW_law_337 rfl ?_
  refine w_iconst (v := nI 1) d_LW_law_338 (by decide) ?_
  refine w_iadd d_LW_law_339 ?_
  refine w_topi (y := nI (i + 1)) (nI_add _ _) ?_
  refine w_ti d_LW_law_340 hs (vp_in_nI (by omega) (by omega)) ?_
  refine w_topi (y := x1) (by rw [nI_clamp (by omega)]; exact e1) ?_
  refine w_aload_n d_LW_law_341 rfl rfl ?_
  refine w_iload_n d_LW_law_342 rfl ?_
  refine w_iconst (v := nI 2) d_LW_law_343 (by decide) ?_
  refine w_iadd d_LW_law_344 ?_
  refine w_topi (y := nI (i + 2)) (nI_add _ _) ?_
  refine w_ti d_LW_law_345 hs (vp_in_nI (by omega) (by omega)) ?_
  refine w_topi (y := x2) (by rw [nI_clamp (by omega)]; exact e2) ?_
  refine w_callV (as := [.int (x1), .int (x2)]) (st := [.int (bI false)]) d_LW_law_346 yM_MO_contains l_LW_57 vM_MO_contains m0 rfl rfl rfl rfl (m_MO_containsB hmo hx1) (by decide) (by decide) (by decide) (by decide) (Nat.le_of_ble_eq_true rfl) ?_
  rintro _ h9_2 ⟨rfl, e9_2⟩
  rw [e9_2]
  refine w_eq (st' := [.int (bI false), .int (bI false)]) rfl ?_
  refine w_icmp_eq (tgt := 581) d_LW_law_349 rfl (fun _ => ?_) (fun z => absurd rfl z)
  exact K _ _ _ _ _ a
set_option maxHeartbeats 4000000 in
set_option maxRecDepth 100000 in
theorem lw_9C (hT : xTab X) {h : wH} {t : List Nat} {G : gG} {EE SS : Nat → List Nat} {xs : Nat → Int32} {L i : Nat} (hs : (xo X)[13]? = some (L, xs)) (hL : L ≤ 2048) (hi : i + 4 ≤ L) (a : LR h t G EE SS) (K : ∀ (h' : wH) (t' : List Nat) (G' : gG) (EE' SS' : Nat → List Nat), LR h' t' G' EE' SS' → WP X (M_LW_law nm) room_1 68 E 68 10981 581 [some (.ref (1000 + 13)), some (.ref 0), some (.ref 57), some (.int (nI i))] [] h') {r : Nat} (hr : r < 3) {x2 : Int32} (hx2 : ¬ (0 ≤ x2 ∧ x2 < nI 1114112)) (e1 : xs (i + 1) = nI r) (e2 : xs (i + 2) = x2) : WP X (M_LW_law nm) room_1 68 E 68 10981 321 [some (.ref (1000 + 13)), some (.ref 0), some (.ref 57), some (.int (nI i))] [] h := by
  obtain ⟨hcp, hmo, hg, hrel, e11, f11⟩ := id a
  obtain ⟨sp, Es, Ss, pr, hq⟩ := id hcp
  have c0 := hq.1
  obtain ⟨ap0, gd0, dp0, wr0, fi0, m0⟩ := hmo.1
  have hmk := a.mok
  have ht := hg.1
  have t60 : t.length ≤ 60 := hmo.2.1.choose_spec.2.1
  refine w_aload_n d_LW_law_321 rfl rfl ?_
  refine w_aload_n d_LW_law_322 rfl rfl ?_
  refine w_iload_n d_LW_law_323 rfl ?_
  refine w_iconst (v := nI 1) d_LW_law_324 (by decide) ?_
  refine w_iadd d_LW_law_325 ?_
  refine w_topi (y := nI (i + 1)) (nI_add _ _) ?_
  refine w_ti d_LW_law_326 hs (vp_in_nI (by omega) (by omega)) ?_
  refine w_topi (y := nI r) (by rw [nI_clamp (by omega)]; exact e1) ?_
  refine w_aload_n d_LW_law_327 rfl rfl ?_
  refine w_iload_n d_LW_law_328 rfl ?_
  refine w_iconst (v := nI 2) d_LW_law_329 (by decide) ?_
  refine w_iadd d_LW_law_330 ?_
  refine w_topi (y := nI (i + 2)) (nI_add _ _) ?_
  refine w_ti d_LW_law_331 hs (vp_in_nI (by omega) (by omega)) ?_
  refine w_topi (y := x2) (by rw [nI_clamp (by omega)]; exact e2) ?_
  refine w_callV (as := [.int (nI r), .int (x2)]) (st := []) d_LW_law_332 yM_CP_contains l_LW_53 vM_CP_contains c0 rfl rfl rfl rfl (m_CP_containsC hq hr hx2) (by decide) (by decide) (by decide) (by decide) (Nat.le_of_ble_eq_true rfl) ?_
  rintro _ h9_1 ⟨rfl, e9_1⟩
  rw [e9_1]
  refine w_eq (st' := [.int (bI false)]) rfl ?_
  refine w_aload_n d_LW_law_335 rfl rfl ?_
  refine w_aload_n d_LW_law_336 rfl rfl ?_
  refine w_iload_n d_LW_law_337 rfl ?_
  refine w_iconst (v := nI 1) d_LW_law_338 (by decide) ?_
  refine w_iadd d_LW_law_339 ?_
  refine w_topi (y := nI (i + 1)) (nI_add _ _) ?_
  refine w_ti d_LW_law_340 hs (vp_in_nI (by omega) (by omega)) ?_
  refine w_topi (y := nI r) (by rw [nI_clamp (by omega)]; exact e1) ?_
  refine w_aload_n d_LW_law_341 rfl rfl ?_
  refine w_iload_n d_LW_law_342 rfl ?_
  refine w_iconst (v := nI 2) d_LW_law_343 (by decide) ?_
  refine w_iadd d_LW_law_344 ?_
  refine w_topi (y := nI (i + 2)) (nI_add _ _) ?_
  refine w_ti d_LW_law_345 hs (vp_in_nI (by omega) (by omega)) ?_
  refine w_topi (y := x2) (by rw [nI_clamp (by omega)]; exact e2) ?_
  refine w_callV (as := [.int (nI r), .int (x2)]) (st := [.int (bI false)]) d_LW_law_346 yM_MO_contains l_LW_57 vM_MO_contains m0 rfl rfl rfl rfl (m_MO_containsC hmo hr hx2) (by decide) (by decide) (by decide) (by decide) (Nat.le_of_ble_eq_true rfl) ?_
  rintro _ h9_2 ⟨rfl, e9_2⟩
  rw [e9_2]
  refine w_eq (st' := [.int (bI false), .int (bI false)]) rfl ?_
  refine w_icmp_eq (tgt := 581) d_LW_law_349 rfl (fun _ => ?_) (fun z => absurd rfl z)
  exact K _ _ _ _ _ a
set_option maxHeartbeats 4000000 in
set_option maxRecDepth 100000 in
theorem lw_10G (hT : xTab X) {h : wH} {t : List Nat} {G : gG} {EE SS : Nat → List Nat} {xs : Nat → Int32} {L i : Nat} (hs : (xo X)[13]? = some (L, xs)) (hL : L ≤ 2048) (hi : i + 4 ≤ L) (a : LR h t G EE SS) (K : ∀ (h' : wH) (t' : List Nat) (G' : gG) (EE' SS' : Nat → List Nat), LR h' t' G' EE' SS' → WP X (M_LW_law nm) room_1 68 E 68 10981 581 [some (.ref (1000 + 13)), some (.ref 0), some (.ref 57), some (.int (nI i))] [] h') {r : Nat} (hr : r < 3) (e1 : xs (i + 1) = nI r) : WP X (M_LW_law nm) room_1 68 E 68 10981 354 [some (.ref (1000 + 13)), some (.ref 0), some (.ref 57), some (.int (nI i))] [] h := by
  obtain ⟨hcp, hmo, hg, hrel, e11, f11⟩ := id a
  obtain ⟨sp, Es, Ss, pr, hq⟩ := id hcp
  have c0 := hq.1
  obtain ⟨ap0, gd0, dp0, wr0, fi0, m0⟩ := hmo.1
  have hmk := a.mok
  have ht := hg.1
  have t60 : t.length ≤ 60 := hmo.2.1.choose_spec.2.1
  refine w_aload_n d_LW_law_354 rfl rfl ?_
  refine w_aload_n d_LW_law_355 rfl rfl ?_
  refine w_iload_n d_LW_law_356 rfl ?_
  refine w_iconst (v := nI 1) d_LW_law_357 (by decide) ?_
  refine w_iadd d_LW_law_358 ?_
  refine w_topi (y := nI (i + 1)) (nI_add _ _) ?_
  refine w_ti d_LW_law_359 hs (vp_in_nI (by omega) (by omega)) ?_
  refine w_topi (y := nI r) (by rw [nI_clamp (by omega)]; exact e1) ?_
  refine w_callV (as := [.int (nI r)]) (st := []) d_LW_law_360 yM_CP_has l_LW_58 vM_CP_has c0 rfl rfl rfl rfl (m_CP_hasG hq hg hr) (by decide) (by decide) (by decide) (by decide) (Nat.le_of_ble_eq_true rfl) ?_
  rintro _ h9_1 ⟨rfl, e9_1⟩
  rw [e9_1]
  refine w_eq (st' := [.int (bI (tM (G r).1 (G r).2 t 0 t.length))]) rfl ?_
  refine w_aload_n d_LW_law_363 rfl rfl ?_
  refine w_aload_n d_LW_law_364 rfl rfl ?_
  refine w_iload_n d_LW_law_365 rfl ?_
  refine w_iconst (v := nI 1) d_LW_law_366 (by decide) ?_
  refine w_iadd d_LW_law_367 ?_
  refine w_topi (y := nI (i + 1)) (nI_add _ _) ?_
  refine w_ti d_LW_law_368 hs (vp_in_nI (by omega) (by omega)) ?_
  refine w_topi (y := nI r) (by rw [nI_clamp (by omega)]; exact e1) ?_
  refine w_callV (as := [.int (nI r)]) (st := [.int (bI (tM (G r).1 (G r).2 t 0 t.length))]) d_LW_law_369 yM_MO_has l_LW_61 vM_MO_has m0 rfl rfl rfl rfl (m_MO_hasG hmo hmk hr) (by decide) (by decide) (by decide) (by decide) (Nat.le_of_ble_eq_true rfl) ?_
  rintro _ h9_2 ⟨rfl, e9_2⟩
  rw [e9_2]
  refine w_eq (st' := [.int (bI (tM (EE r) (SS r) t 0 t.length)), .int (bI (tM (G r).1 (G r).2 t 0 t.length))]) rfl ?_
  refine w_icmp_eq (tgt := 581) d_LW_law_372 rfl (fun _ => ?_) (fun z => absurd (by rw [(hrel r hr).1, tM_eq (hrel r hr).2]) z)
  exact K _ _ _ _ _ a
set_option maxHeartbeats 4000000 in
set_option maxRecDepth 100000 in
theorem lw_10B (hT : xTab X) {h : wH} {t : List Nat} {G : gG} {EE SS : Nat → List Nat} {xs : Nat → Int32} {L i : Nat} (hs : (xo X)[13]? = some (L, xs)) (hL : L ≤ 2048) (hi : i + 4 ≤ L) (a : LR h t G EE SS) (K : ∀ (h' : wH) (t' : List Nat) (G' : gG) (EE' SS' : Nat → List Nat), LR h' t' G' EE' SS' → WP X (M_LW_law nm) room_1 68 E 68 10981 581 [some (.ref (1000 + 13)), some (.ref 0), some (.ref 57), some (.int (nI i))] [] h') {x1 : Int32} (hx1 : ¬ (0 ≤ x1 ∧ x1 < nI 3)) (e1 : xs (i + 1) = x1) : WP X (M_LW_law nm) room_1 68 E 68 10981 354 [some (.ref (1000 + 13)), some (.ref 0), some (.ref 57), some (.int (nI i))] [] h := by
  obtain ⟨hcp, hmo, hg, hrel, e11, f11⟩ := id a
  obtain ⟨sp, Es, Ss, pr, hq⟩ := id hcp
  have c0 := hq.1
  obtain ⟨ap0, gd0, dp0, wr0, fi0, m0⟩ := hmo.1
  have hmk := a.mok
  have ht := hg.1
  have t60 : t.length ≤ 60 := hmo.2.1.choose_spec.2.1
  refine w_aload_n d_LW_law_354 rfl rfl ?_
  refine w_aload_n d_LW_law_355 rfl rfl ?_
  refine w_iload_n d_LW_law_356 rfl ?_
  refine w_iconst (v := nI 1) d_LW_law_357 (by decide) ?_
  refine w_iadd d_LW_law_358 ?_
  refine w_topi (y := nI (i + 1)) (nI_add _ _) ?_
  refine w_ti d_LW_law_359 hs (vp_in_nI (by omega) (by omega)) ?_
  refine w_topi (y := x1) (by rw [nI_clamp (by omega)]; exact e1) ?_
  refine w_callV (as := [.int (x1)]) (st := []) d_LW_law_360 yM_CP_has l_LW_58 vM_CP_has c0 rfl rfl rfl rfl (m_CP_hasB hq hx1) (by decide) (by decide) (by decide) (by decide) (Nat.le_of_ble_eq_true rfl) ?_
  rintro _ h9_1 ⟨rfl, e9_1⟩
  rw [e9_1]
  refine w_eq (st' := [.int (bI false)]) rfl ?_
  refine w_aload_n d_LW_law_363 rfl rfl ?_
  refine w_aload_n d_LW_law_364 rfl rfl ?_
  refine w_iload_n d_LW_law_365 rfl ?_
  refine w_iconst (v := nI 1) d_LW_law_366 (by decide) ?_
  refine w_iadd d_LW_law_367 ?_
  refine w_topi (y := nI (i + 1)) (nI_add _ _) ?_
  refine w_ti d_LW_law_368 hs (vp_in_nI (by omega) (by omega)) ?_
  refine w_topi (y := x1) (by rw [nI_clamp (by omega)]; exact e1) ?_
  refine w_callV (as := [.int (x1)]) (st := [.int (bI false)]) d_LW_law_369 yM_MO_has l_LW_61 vM_MO_has m0 rfl rfl rfl rfl (m_MO_hasB hmo hx1) (by decide) (by decide) (by decide) (by decide) (Nat.le_of_ble_eq_true rfl) ?_
  rintro _ h9_2 ⟨rfl, e9_2⟩
  rw [e9_2]
  refine w_eq (st' := [.int (bI false), .int (bI false)]) rfl ?_
  refine w_icmp_eq (tgt := 581) d_LW_law_372 rfl (fun _ => ?_) (fun z => absurd rfl z)
  exact K _ _ _ _ _ a
set_option maxHeartbeats 4000000 in
set_option maxRecDepth 100000 in
theorem lw_11G (hT : xTab X) {h : wH} {t : List Nat} {G : gG} {EE SS : Nat → List Nat} {xs : Nat → Int32} {L i : Nat} (hs : (xo X)[13]? = some (L, xs)) (hL : L ≤ 2048) (hi : i + 4 ≤ L) (a : LR h t G EE SS) (K : ∀ (h' : wH) (t' : List Nat) (G' : gG) (EE' SS' : Nat → List Nat), LR h' t' G' EE' SS' → WP X (M_LW_law nm) room_1 68 E 68 10981 581 [some (.ref (1000 + 13)), some (.ref 0), some (.ref 57), some (.int (nI i))] [] h') {r : Nat} (hr : r < 3) {s : Nat} (hr2 : s < 3) (e1 : xs (i + 1) = nI r) (e2 : xs (i + 2) = nI s) : WP X (M_LW_law nm) room_1 68 E 68 10981 377 [some (.ref (1000 + 13)), some (.ref 0), some (.ref 57), some (.int (nI i))] [] h := by
  obtain ⟨hcp, hmo, hg, hrel, e11, f11⟩ := id a
  obtain ⟨sp, Es, Ss, pr, hq⟩ := id hcp
  have c0 := hq.1
  obtain ⟨ap0, gd0, dp0, wr0, fi0, m0⟩ := hmo.1
  have hmk := a.mok
  have ht := hg.1
  have t60 : t.length ≤ 60 := hmo.2.1.choose_spec.2.1
  have hS := sR_mk (how := 2) (hrel s hr2).2 (hrel r hr).2
  have hE : eCmb 2 (EE s) (EE r) = eCmb 2 (G s).1 (G r).1 := by rw [(hrel r hr).1, (hrel s hr2).1]
  refine w_aload_n d_LW_law_377 rfl rfl ?_
  refine w_aload_n d_LW_law_378 rfl rfl ?_
  refine w_iload_n d_LW_law_379 rfl ?_
  refine w_iconst (v := nI 1) d_LW_law_380 (by decide) ?_
  refine w_iadd d_LW_law_381 ?_
  refine w_topi (y := nI (i + 1)) (nI_add _ _) ?_
  refine w_ti d_LW_law_382 hs (vp_in_nI (by omega) (by omega)) ?_
  refine w_topi (y := nI r) (by rw [nI_clamp (by omega)]; exact e1) ?_
  refine w_aload_n d_LW_law_383 rfl rfl ?_
  refine w_iload_n d_LW_law_384 rfl ?_
  refine w_iconst (v := nI 2) d_LW_law_385 (by decide) ?_
  refine w_iadd d_LW_law_386 ?_
  refine w_topi (y := nI (i + 2)) (nI_add _ _) ?_
  refine w_ti d_LW_law_387 hs (vp_in_nI (by omega) (by omega)) ?_
  refine w_topi (y := nI s) (by rw [nI_clamp (by omega)]; exact e2) ?_
  refine w_callV (as := [.int (nI r), .int (nI s)]) (st := []) d_LW_law_388 yM_CP_includes l_LW_62 vM_CP_includes c0 rfl rfl rfl rfl (m_CP_includesG hq hg hr hr2) (by decide) (by decide) (by decide) (by decide) (Nat.le_of_ble_eq_true rfl) ?_
  rintro _ h1 ⟨rfl, hcp1, o1⟩
  refine w_eq (st' := [.int (bI (decide (eCmb 2 (G s).1 (G r).1 = [] ∧ sCmb 2 (G s).2 (G r).2 = [])))]) rfl ?_
  have m1 := (o1 57 (by omega)).trans m0
  refine w_aload_n d_LW_law_391 rfl rfl ?_
  refine w_aload_n d_LW_law_392 rfl rfl ?_
  refine w_iload_n d_LW_law_393 rfl ?_
  refine w_iconst (v := nI 1) d_LW_law_394 (by decide) ?_
  refine w_iadd d_LW_law_395 ?_
  refine w_topi (y := nI (i + 1)) (nI_add _ _) ?_
  refine w_ti d_LW_law_396 hs (vp_in_nI (by omega) (by omega)) ?_
  refine w_topi (y := nI r) (by rw [nI_clamp (by omega)]; exact e1) ?_
  refine w_aload_n d_LW_law_397 rfl rfl ?_
  refine w_iload_n d_LW_law_398 rfl ?_
  refine w_iconst (v := nI 2) d_LW_law_399 (by decide) ?_
  refine w_iadd d_LW_law_400 ?_
  refine w_topi (y := nI (i + 2)) (nI_add _ _) ?_
  refine w_ti d_LW_law_401 hs (vp_in_nI (by omega) (by omega)) ?_
  refine w_topi (y := nI s) (by rw [nI_clamp (by omega)]; exact e2) ?_
  refine w_callV (as := [.int (nI r), .int (nI s)]) (st := [.int (bI (decide (eCmb 2 (G s).1 (G r).1 = [] ∧ sCmb 2 (G s).2 (G r).2 = [])))]) d_LW_law_402 yM_MO_includes l_LW_65 vM_MO_includes m1 rfl rfl rfl rfl (m_MO_includesG (hmo.off o1) hmk hr hr2) (by decide) (by decide) (by decide) (by decide) (Nat.le_of_ble_eq_true rfl) ?_
  rintro _ h2 ⟨rfl, o2, F2, T2, hmo2, j2⟩
  refine w_eq (st' := [.int (bI (decide (eCmb 2 (EE s) (EE r) = [] ∧ mkS 2 (SS s) (SS r) = []))), .int (bI (decide (eCmb 2 (G s).1 (G r).1 = [] ∧ sCmb 2 (G s).2 (G r).2 = [])))]) rfl ?_
  refine w_icmp_eq (tgt := 581) d_LW_law_405 rfl (fun _ => ?_) (fun z => absurd (by rw [hE]; exact congrArg bI (decide_eq_decide.mpr (and_congr_right (fun _ => sR_nl hS)))) z)
  have hj := j2 11 (Or.inr rfl)
  exact K _ t G F2 T2 ⟨hcp1.off o2, hmo2, hg, fun q hq9 => ⟨(j2 q (Or.inl hq9)).1.trans (hrel q hq9).1, by rw [(j2 q (Or.inl hq9)).2]; exact (hrel q hq9).2⟩, hj.1.trans e11, hj.2.trans f11⟩
set_option maxHeartbeats 4000000 in
set_option maxRecDepth 100000 in
theorem lw_11B1 (hT : xTab X) {h : wH} {t : List Nat} {G : gG} {EE SS : Nat → List Nat} {xs : Nat → Int32} {L i : Nat} (hs : (xo X)[13]? = some (L, xs)) (hL : L ≤ 2048) (hi : i + 4 ≤ L) (a : LR h t G EE SS) (K : ∀ (h' : wH) (t' : List Nat) (G' : gG) (EE' SS' : Nat → List Nat), LR h' t' G' EE' SS' → WP X (M_LW_law nm) room_1 68 E 68 10981 581 [some (.ref (1000 + 13)), some (.ref 0), some (.ref 57), some (.int (nI i))] [] h') {r : Nat} (hr : r < 3) {x2 : Int32} (hx2 : ¬ (0 ≤ x2 ∧ x2 < nI 3)) (e1 : xs (i + 1) = nI r) (e2 : xs (i + 2) = x2) : WP X (M_LW_law nm) room_1 68 E 68 10981 377 [some (.ref (1000 + 13)), some (.ref 0), some (.ref 57), some (.int (nI i))] [] h := by
  obtain ⟨hcp, hmo, hg, hrel, e11, f11⟩ := id a
  obtain ⟨sp, Es, Ss, pr, hq⟩ := id hcp
  have c0 := hq.1
  obtain ⟨ap0, gd0, dp0, wr0, fi0, m0⟩ := hmo.1
  have hmk := a.mok
  have ht := hg.1
  have t60 : t.length ≤ 60 := hmo.2.1.choose_spec.2.1
  refine w_aload_n d_LW_law_377 rfl rfl ?_
  refine w_aload_n d_LW_law_378 rfl rfl ?_
  refine w_iload_n d_LW_law_379 rfl ?_
  refine w_iconst (v := nI 1) d_LW_law_380 (by decide) ?_
  refine w_iadd d_LW_law_381 ?_
  refine w_topi (y := nI (i + 1)) (nI_add _ _) ?_
  refine w_ti d_LW_law_382 hs (vp_in_nI (by omega) (by omega)) ?_
  refine w_topi (y := nI r) (by rw [nI_clamp (by omega)]; exact e1) ?_
  refine w_aload_n d_LW_law_383 rfl rfl ?_
  refine w_iload_n d_LW_law_384 rfl ?_
  refine w_iconst (v := nI 2) d_LW_law_385 (by decide) ?_
  refine w_iadd d_LW_law_386 ?_
  refine w_topi (y := nI (i + 2)) (nI_add _ _) ?_
  refine w_ti d_LW_law_387 hs (vp_in_nI (by omega) (by omega)) ?_
  refine w_topi (y := x2) (by rw [nI_clamp (by omega)]; exact e2) ?_
  refine w_callV (as := [.int (nI r), .int (x2)]) (st := []) d_LW_law_388 yM_CP_includes l_LW_62 vM_CP_includes c0 rfl rfl rfl rfl (m_CP_includesB1 hq hr hx2) (by decide) (by decide) (by decide) (by decide) (Nat.le_of_ble_eq_true rfl) ?_
  rintro _ h9_1 ⟨rfl, e9_1⟩
  rw [e9_1]
  refine w_eq (st' := [.int (bI false)]) rfl ?_
  refine w_aload_n d_LW_law_391 rfl rfl ?_
  refine w_aload_n d_LW_law_392 rfl rfl ?_
  refine w_iload_n d_LW_law_393 rfl ?_
  refine w_iconst (v := nI 1) d_LW_law_394 (by decide) ?_
  refine w_iadd d_LW_law_395 ?_
  refine w_topi (y := nI (i + 1)) (nI_add _ _) ?_
  refine w_ti d_LW_law_396 hs (vp_in_nI (by omega) (by omega)) ?_
  refine w_topi (y := nI r) (by rw [nI_clamp (by omega)]; exact e1) ?_
  refine w_aload_n d_LW_law_397 rfl rfl ?_
  refine w_iload_n d_LW_law_398 rfl ?_
  refine w_iconst (v := nI 2) d_LW_law_399 (by decide) ?_
  refine w_iadd d_LW_law_400 ?_
  refine w_topi (y := nI (i + 2)) (nI_add _ _) ?_
  refine w_ti d_LW_law_401 hs (vp_in_nI (by omega) (by omega)) ?_
  refine w_topi (y := x2) (by rw [nI_clamp (by omega)]; exact e2) ?_
  refine w_callV (as := [.int (nI r), .int (x2)]) (st := [.int (bI false)]) d_LW_law_402 yM_MO_includes l_LW_65 vM_MO_includes m0 rfl rfl rfl rfl (m_MO_includesB1 hmo hr hx2) (by decide) (by decide) (by decide) (by decide) (Nat.le_of_ble_eq_true rfl) ?_
  rintro _ h9_2 ⟨rfl, e9_2⟩
  rw [e9_2]
  refine w_eq (st' := [.int (bI false), .int (bI false)]) rfl ?_
  refine w_icmp_eq (tgt := 581) d_LW_law_405 rfl (fun _ => ?_) (fun z => absurd rfl z)
  exact K _ _ _ _ _ a
set_option maxHeartbeats 4000000 in
set_option maxRecDepth 100000 in
theorem lw_11B0 (hT : xTab X) {h : wH} {t : List Nat} {G : gG} {EE SS : Nat → List Nat} {xs : Nat → Int32} {L i : Nat} (hs : (xo X)[13]? = some (L, xs)) (hL : L ≤ 2048) (hi : i + 4 ≤ L) (a : LR h t G EE SS) (K : ∀ (h' : wH) (t' : List Nat) (G' : gG) (EE' SS' : Nat → List Nat), LR h' t' G' EE' SS' → WP X (M_LW_law nm) room_1 68 E 68 10981 581 [some (.ref (1000 + 13)), some (.ref 0), some (.ref 57), some (.int (nI i))] [] h') {x1 : Int32} (hx1 : ¬ (0 ≤ x1 ∧ x1 < nI 3)) {s : Nat} (hr2 : s < 3) (e1 : xs (i + 1) = x1) (e2 : xs (i + 2) = nI s) : WP X (M_LW_law nm) room_1 68 E 68 10981 377 [some (.ref (1000 + 13)), some (.ref 0), some (.ref 57), some (.int (nI i))] [] h := by
  obtain ⟨hcp, hmo, hg, hrel, e11, f11⟩ := id a
  obtain ⟨sp, Es, Ss, pr, hq⟩ := id hcp
  have c0 := hq.1
  obtain ⟨ap0, gd0, dp0, wr0, fi0, m0⟩ := hmo.1
  have hmk := a.mok
  have ht := hg.1
  have t60 : t.length ≤ 60 := hmo.2.1.choose_spec.2.1
  refine w_aload_n d_LW_law_377 rfl rfl ?_
  refine w_aload_n d_LW_law_378 rfl rfl ?_
  refine w_iload_n d_LW_law_379 rfl ?_
  refine w_iconst (v := nI 1) d_LW_law_380 (by decide) ?_
  refine w_iadd d_LW_law_381 ?_
  refine w_topi (y := nI (i + 1)) (nI_add _ _) ?_
  refine w_ti d_LW_law_382 hs (vp_in_nI (by omega) (by omega)) ?_
  refine w_topi (y := x1) (by rw [nI_clamp (by omega)]; exact e1) ?_
  refine w_aload_n d_LW_law_383 rfl rfl ?_
  refine w_iload_n d_LW_law_384 rfl ?_
  refine w_iconst (v := nI 2) d_LW_law_385 (by decide) ?_
  refine w_iadd d_LW_law_386 ?_
  refine w_topi (y := nI (i + 2)) (nI_add _ _) ?_
  refine w_ti d_LW_law_387 hs (vp_in_nI (by omega) (by omega)) ?_
  refine w_topi (y := nI s) (by rw [nI_clamp (by omega)]; exact e2) ?_
  refine w_callV (as := [.int (x1), .int (nI s)]) (st := []) d_LW_law_388 yM_CP_includes l_LW_62 vM_CP_includes c0 rfl rfl rfl rfl (m_CP_includesB0 hq hr2 hx1) (by decide) (by decide) (by decide) (by decide) (Nat.le_of_ble_eq_true rfl) ?_
  rintro _ h9_1 ⟨rfl, e9_1⟩
  rw [e9_1]
  refine w_eq (st' := [.int (bI false)]) rfl ?_
  refine w_aload_n d_LW_law_391 rfl rfl ?_
  refine w_aload_n d_LW_law_392 rfl rfl ?_
  refine w_iload_n d_LW_law_393 rfl ?_
  refine w_iconst (v := nI 1) d_LW_law_394 (by decide) ?_
  refine w_iadd d_LW_law_395 ?_
  refine w_topi (y := nI (i + 1)) (nI_add _ _) ?_
  refine w_ti d_LW_law_396 hs (vp_in_nI (by omega) (by omega)) ?_
  refine w_topi (y := x1) (by rw [nI_clamp (by omega)]; exact e1) ?_
  refine w_aload_n d_LW_law_397 rfl rfl ?_
  refine w_iload_n d_LW_law_398 rfl ?_
  refine w_iconst (v := nI 2) d_LW_law_399 (by decide) ?_
  refine w_iadd d_LW_law_400 ?_
  refine w_topi (y := nI (i + 2)) (nI_add _ _) ?_
  refine w_ti d_LW_law_401 hs (vp_in_nI (by omega) (by omega)) ?_
  refine w_topi (y := nI s) (by rw [nI_clamp (by omega)]; exact e2) ?_
  refine w_callV (as := [.int (x1), .int (nI s)]) (st := [.int (bI false)]) d_LW_law_402 yM_MO_includes l_LW_65 vM_MO_includes m0 rfl rfl rfl rfl (m_MO_includesB0 hmo hx1) (by decide) (by decide) (by decide) (by decide) (Nat.le_of_ble_eq_true rfl) ?_
  rintro _ h9_2 ⟨rfl, e9_2⟩
  rw [e9_2]
  refine w_eq (st' := [.int (bI false), .int (bI false)]) rfl ?_
  refine w_icmp_eq (tgt := 581) d_LW_law_405 rfl (fun _ => ?_) (fun z => absurd rfl z)
  exact K _ _ _ _ _ a
set_option maxHeartbeats 4000000 in
set_option maxRecDepth 100000 in
theorem lw_11B2 (hT : xTab X) {h : wH} {t : List Nat} {G : gG} {EE SS : Nat → List Nat} {xs : Nat → Int32} {L i : Nat} (hs : (xo X)[13]? = some (L, xs)) (hL : L ≤ 2048) (hi : i + 4 ≤ L) (a : LR h t G EE SS) (K : ∀ (h' : wH) (t' : List Nat) (G' : gG) (EE' SS' : Nat → List Nat), LR h' t' G' EE' SS' → WP X (M_LW_law nm) room_1 68 E 68 10981 581 [some (.ref (1000 + 13)), some (.ref 0), some (.ref 57), some (.int (nI i))] [] h') {x1 : Int32} (hx1 : ¬ (0 ≤ x1 ∧ x1 < nI 3)) {x2 : Int32} (hx2 : ¬ (0 ≤ x2 ∧ x2 < nI 3)) (e1 : xs (i + 1) = x1) (e2 : xs (i + 2) = x2) : WP X (M_LW_law nm) room_1 68 E 68 10981 377 [some (.ref (1000 + 13)), some (.ref 0), some (.ref 57), some (.int (nI i))] [] h := by
  obtain ⟨hcp, hmo, hg, hrel, e11, f11⟩ := id a
  obtain ⟨sp, Es, Ss, pr, hq⟩ := id hcp
  have c0 := hq.1
  obtain ⟨ap0, gd0, dp0, wr0, fi0, m0⟩ := hmo.1
  have hmk := a.mok
  have ht := hg.1
  have t60 : t.length ≤ 60 := hmo.2.1.choose_spec.2.1
  refine w_aload_n d_LW_law_377 rfl rfl ?_
  refine w_aload_n d_LW_law_378 rfl rfl ?_
  refine w_iload_n d_LW_law_379 rfl ?_
  refine w_iconst (v := nI 1) d_LW_law_380 (by decide) ?_
  refine w_iadd d_LW_law_381 ?_
  refine w_topi (y := nI (i + 1)) (nI_add _ _) ?_
  refine w_ti d_LW_law_382 hs (vp_in_nI (by omega) (by omega)) ?_
  refine w_topi (y := x1) (by rw [nI_clamp (by omega)]; exact e1) ?_
  refine w_aload_n d_LW_law_383 rfl rfl ?_
  refine w_iload_n d_LW_law_384 rfl ?_
  refine w_iconst (v := nI 2) d_LW_law_385 (by decide) ?_
  refine w_iadd d_LW_law_386 ?_
  refine w_topi (y := nI (i + 2)) (nI_add _ _) ?_
  refine w_ti d_LW_law_387 hs (vp_in_nI (by omega) (by omega)) ?_
  refine w_topi (y := x2) (by rw [nI_clamp (by omega)]; exact e2) ?_
  refine w_callV (as := [.int (x1), .int (x2)]) (st := []) d_LW_law_388 yM_CP_includes l_LW_62 vM_CP_includes c0 rfl rfl rfl rfl (m_CP_includesB2 hq hx1 hx2) (by decide) (by decide) (by decide) (by decide) (Nat.le_of_ble_eq_true rfl) ?_
  rintro _ h9_1 ⟨rfl, e9_1⟩
  rw [e9_1]
  refine w_eq (st' := [.int (bI false)]) rfl ?_
  refine w_aload_n d_LW_law_391 rfl rfl ?_
  refine w_aload_n d_LW_law_392 rfl rfl ?_
  refine w_iload_n d_LW_law_393 rfl ?_
  refine w_iconst (v := nI 1) d_LW_law_394 (by decide) ?_
  refine w_iadd d_LW_law_395 ?_
  refine w_topi (y := nI (i + 1)) (nI_add _ _) ?_
  refine w_ti d_LW_law_396 hs (vp_in_nI (by omega) (by omega)) ?_
  refine w_topi (y := x1) (by rw [nI_clamp (by omega)]; exact e1) ?_
  refine w_aload_n d_LW_law_397 rfl rfl ?_
  refine w_iload_n d_LW_law_398 rfl ?_
  refine w_iconst (v := nI 2) d_LW_law_399 (by decide) ?_
  refine w_iadd d_LW_law_400 ?_
  refine w_topi (y := nI (i + 2)) (nI_add _ _) ?_
  refine w_ti d_LW_law_401 hs (vp_in_nI (by omega) (by omega)) ?_
  refine w_topi (y := x2) (by rw [nI_clamp (by omega)]; exact e2) ?_
  refine w_callV (as := [.int (x1), .int (x2)]) (st := [.int (bI false)]) d_LW_law_402 yM_MO_includes l_LW_65 vM_MO_includes m0 rfl rfl rfl rfl (m_MO_includesB0 hmo hx1) (by decide) (by decide) (by decide) (by decide) (Nat.le_of_ble_eq_true rfl) ?_
  rintro _ h9_2 ⟨rfl, e9_2⟩
  rw [e9_2]
  refine w_eq (st' := [.int (bI false), .int (bI false)]) rfl ?_
  refine w_icmp_eq (tgt := 581) d_LW_law_405 rfl (fun _ => ?_) (fun z => absurd rfl z)
  exact K _ _ _ _ _ a
set_option maxHeartbeats 4000000 in
set_option maxRecDepth 100000 in
theorem lw_12G (hT : xTab X) {h : wH} {t : List Nat} {G : gG} {EE SS : Nat → List Nat} {xs : Nat → Int32} {L i : Nat} (hs : (xo X)[13]? = some (L, xs)) (hL : L ≤ 2048) (hi : i + 4 ≤ L) (a : LR h t G EE SS) (K : ∀ (h' : wH) (t' : List Nat) (G' : gG) (EE' SS' : Nat → List Nat), LR h' t' G' EE' SS' → WP X (M_LW_law nm) room_1 68 E 68 10981 581 [some (.ref (1000 + 13)), some (.ref 0), some (.ref 57), some (.int (nI i))] [] h') {r : Nat} (hr : r < 3) (e1 : xs (i + 1) = nI r) : WP X (M_LW_law nm) room_1 68 E 68 10981 410 [some (.ref (1000 + 13)), some (.ref 0), some (.ref 57), some (.int (nI i))] [] h := by
  obtain ⟨hcp, hmo, hg, hrel, e11, f11⟩ := id a
  obtain ⟨sp, Es, Ss, pr, hq⟩ := id hcp
  have c0 := hq.1
  obtain ⟨ap0, gd0, dp0, wr0, fi0, m0⟩ := hmo.1
  have hmk := a.mok
  have ht := hg.1
  have t60 : t.length ≤ 60 := hmo.2.1.choose_spec.2.1
  refine w_aload_n d_LW_law_410 rfl rfl ?_
  refine w_aload_n d_LW_law_411 rfl rfl ?_
  refine w_iload_n d_LW_law_412 rfl ?_
  refine w_iconst (v := nI 1) d_LW_law_413 (by decide) ?_
  refine w_iadd d_LW_law_414 ?_
  refine w_topi (y := nI (i + 1)) (nI_add _ _) ?_
  refine w_ti d_LW_law_415 hs (vp_in_nI (by omega) (by omega)) ?_
  refine w_topi (y := nI r) (by rw [nI_clamp (by omega)]; exact e1) ?_
  refine w_callV (as := [.int (nI r)]) (st := []) d_LW_law_416 yM_CP_size l_LW_66 vM_CP_size c0 rfl rfl rfl rfl (m_CP_sizeG hq hg hr) (by decide) (by decide) (by decide) (by decide) (Nat.le_of_ble_eq_true rfl) ?_
  rintro _ h9_1 ⟨rfl, e9_1⟩
  rw [e9_1]
  refine w_eq (st' := [.int (nI (eSize (G r).1))]) rfl ?_
  refine w_aload_n d_LW_law_419 rfl rfl ?_
  refine w_aload_n d_LW_law_420 rfl rfl ?_
  refine w_iload_n d_LW_law_421 rfl ?_
  refine w_iconst (v := nI 1) d_LW_law_422 (by decide) ?_
  refine w_iadd d_LW_law_423 ?_
  refine w_topi (y := nI (i + 1)) (nI_add _ _) ?_
  refine w_ti d_LW_law_424 hs (vp_in_nI (by omega) (by omega)) ?_
  refine w_topi (y := nI r) (by rw [nI_clamp (by omega)]; exact e1) ?_
  refine w_callV (as := [.int (nI r)]) (st := [.int (nI (eSize (G r).1))]) d_LW_law_425 yM_MO_size l_LW_69 vM_MO_size m0 rfl rfl rfl rfl (m_MO_size m0 hmo.2.2.1 hr (hmk.2.1 r hr).1.1) (by decide) (by decide) (by decide) (by decide) (Nat.le_of_ble_eq_true rfl) ?_
  rintro _ h9_2 ⟨rfl, e9_2⟩
  rw [e9_2]
  refine w_eq (st' := [.int (nI (eSize (EE r))), .int (nI (eSize (G r).1))]) rfl ?_
  refine w_icmp_eq (tgt := 581) d_LW_law_428 rfl (fun _ => ?_) (fun z => absurd (by rw [(hrel r hr).1]) z)
  exact K _ _ _ _ _ a
set_option maxHeartbeats 4000000 in
set_option maxRecDepth 100000 in
theorem lw_12B (hT : xTab X) {h : wH} {t : List Nat} {G : gG} {EE SS : Nat → List Nat} {xs : Nat → Int32} {L i : Nat} (hs : (xo X)[13]? = some (L, xs)) (hL : L ≤ 2048) (hi : i + 4 ≤ L) (a : LR h t G EE SS) (K : ∀ (h' : wH) (t' : List Nat) (G' : gG) (EE' SS' : Nat → List Nat), LR h' t' G' EE' SS' → WP X (M_LW_law nm) room_1 68 E 68 10981 581 [some (.ref (1000 + 13)), some (.ref 0), some (.ref 57), some (.int (nI i))] [] h') {x1 : Int32} (hx1 : ¬ (0 ≤ x1 ∧ x1 < nI 3)) (e1 : xs (i + 1) = x1) : WP X (M_LW_law nm) room_1 68 E 68 10981 410 [some (.ref (1000 + 13)), some (.ref 0), some (.ref 57), some (.int (nI i))] [] h := by
  obtain ⟨hcp, hmo, hg, hrel, e11, f11⟩ := id a
  obtain ⟨sp, Es, Ss, pr, hq⟩ := id hcp
  have c0 := hq.1
  obtain ⟨ap0, gd0, dp0, wr0, fi0, m0⟩ := hmo.1
  have hmk := a.mok
  have ht := hg.1
  have t60 : t.length ≤ 60 := hmo.2.1.choose_spec.2.1
  refine w_aload_n d_LW_law_410 rfl rfl ?_
  refine w_aload_n d_LW_law_411 rfl rfl ?_
  refine w_iload_n d_LW_law_412 rfl ?_
  refine w_iconst (v := nI 1) d_LW_law_413 (by decide) ?_
  refine w_iadd d_LW_law_414 ?_
  refine w_topi (y := nI (i + 1)) (nI_add _ _) ?_
  refine w_ti d_LW_law_415 hs (vp_in_nI (by omega) (by omega)) ?_
  refine w_topi (y := x1) (by rw [nI_clamp (by omega)]; exact e1) ?_
  refine w_callV (as := [.int (x1)]) (st := []) d_LW_law_416 yM_CP_size l_LW_66 vM_CP_size c0 rfl rfl rfl rfl (m_CP_sizeB hq hx1) (by decide) (by decide) (by decide) (by decide) (Nat.le_of_ble_eq_true rfl) ?_
  rintro _ h9_1 ⟨rfl, e9_1⟩
  rw [e9_1]
  refine w_eq (st' := [.int (-1)]) rfl ?_
  refine w_aload_n d_LW_law_419 rfl rfl ?_
  refine w_aload_n d_LW_law_420 rfl rfl ?_
  refine w_iload_n d_LW_law_421 rfl ?_
  refine w_iconst (v := nI 1) d_LW_law_422 (by decide) ?_
  refine w_iadd d_LW_law_423 ?_
  refine w_topi (y := nI (i + 1)) (nI_add _ _) ?_
  refine w_ti d_LW_law_424 hs (vp_in_nI (by omega) (by omega)) ?_
  refine w_topi (y := x1) (by rw [nI_clamp (by omega)]; exact e1) ?_
  refine w_callV (as := [.int (x1)]) (st := [.int (-1)]) d_LW_law_425 yM_MO_size l_LW_69 vM_MO_size m0 rfl rfl rfl rfl (m_MO_sizeB hmo hx1) (by decide) (by decide) (by decide) (by decide) (Nat.le_of_ble_eq_true rfl) ?_
  rintro _ h9_2 ⟨rfl, e9_2⟩
  rw [e9_2]
  refine w_eq (st' := [.int (-1), .int (-1)]) rfl ?_
  refine w_icmp_eq (tgt := 581) d_LW_law_428 rfl (fun _ => ?_) (fun z => absurd rfl z)
  exact K _ _ _ _ _ a
set_option maxHeartbeats 4000000 in
set_option maxRecDepth 100000 in
theorem lw_13G (hT : xTab X) {h : wH} {t : List Nat} {G : gG} {EE SS : Nat → List Nat} {xs : Nat → Int32} {L i : Nat} (hs : (xo X)[13]? = some (L, xs)) (hL : L ≤ 2048) (hi : i + 4 ≤ L) (a : LR h t G EE SS) (K : ∀ (h' : wH) (t' : List Nat) (G' : gG) (EE' SS' : Nat → List Nat), LR h' t' G' EE' SS' → WP X (M_LW_law nm) room_1 68 E 68 10981 581 [some (.ref (1000 + 13)), some (.ref 0), some (.ref 57), some (.int (nI i))] [] h') {r : Nat} (hr : r < 3) (e1 : xs (i + 1) = nI r) : WP X (M_LW_law nm) room_1 68 E 68 10981 433 [some (.ref (1000 + 13)), some (.ref 0), some (.ref 57), some (.int (nI i))] [] h := by
  obtain ⟨hcp, hmo, hg, hrel, e11, f11⟩ := id a
  obtain ⟨sp, Es, Ss, pr, hq⟩ := id hcp
  have c0 := hq.1
  obtain ⟨ap0, gd0, dp0, wr0, fi0, m0⟩ := hmo.1
  have hmk := a.mok
  have ht := hg.1
  have t60 : t.length ≤ 60 := hmo.2.1.choose_spec.2.1
  refine w_aload_n d_LW_law_433 rfl rfl ?_
  refine w_aload_n d_LW_law_434 rfl rfl ?_
  refine w_iload_n d_LW_law_435 rfl ?_
  refine w_iconst (v := nI 1) d_LW_law_436 (by decide) ?_
  refine w_iadd d_LW_law_437 ?_
  refine w_topi (y := nI (i + 1)) (nI_add _ _) ?_
  refine w_ti d_LW_law_438 hs (vp_in_nI (by omega) (by omega)) ?_
  refine w_topi (y := nI r) (by rw [nI_clamp (by omega)]; exact e1) ?_
  refine w_callV (as := [.int (nI r)]) (st := []) d_LW_law_439 yM_CP_strings l_LW_70 vM_CP_strings c0 rfl rfl rfl rfl (m_CP_stringsG hq hg hr) (by decide) (by decide) (by decide) (by decide) (Nat.le_of_ble_eq_true rfl) ?_
  rintro _ h9_1 ⟨rfl, e9_1⟩
  rw [e9_1]
  refine w_eq (st' := [.int (nI (G r).2.length)]) rfl ?_
  refine w_aload_n d_LW_law_442 rfl rfl ?_
  refine w_aload_n d_LW_law_443 rfl rfl ?_
  refine w_iload_n d_LW_law_444 rfl ?_
  refine w_iconst (v := nI 1) d_LW_law_445 (by decide) ?_
  refine w_iadd d_LW_law_446 ?_
  refine w_topi (y := nI (i + 1)) (nI_add _ _) ?_
  refine w_ti d_LW_law_447 hs (vp_in_nI (by omega) (by omega)) ?_
  refine w_topi (y := nI r) (by rw [nI_clamp (by omega)]; exact e1) ?_
  refine w_callV (as := [.int (nI r)]) (st := [.int (nI (G r).2.length)]) d_LW_law_448 yM_MO_strings l_LW_73 vM_MO_strings m0 rfl rfl rfl rfl (m_MO_stringsG hmo hmk hr) (by decide) (by decide) (by decide) (by decide) (Nat.le_of_ble_eq_true rfl) ?_
  rintro _ h9_2 ⟨rfl, e9_2⟩
  rw [e9_2]
  refine w_eq (st' := [.int (nI (SS r).length), .int (nI (G r).2.length)]) rfl ?_
  refine w_icmp_eq (tgt := 581) d_LW_law_451 rfl (fun _ => ?_) (fun z => absurd (by rw [sR_len (hrel r hr).2]) z)
  exact K _ _ _ _ _ a
set_option maxHeartbeats 4000000 in
set_option maxRecDepth 100000 in
theorem lw_13B (hT : xTab X) {h : wH} {t : List Nat} {G : gG} {EE SS : Nat → List Nat} {xs : Nat → Int32} {L i : Nat} (hs : (xo X)[13]? = some (L, xs)) (hL : L ≤ 2048) (hi : i + 4 ≤ L) (a : LR h t G EE SS) (K : ∀ (h' : wH) (t' : List Nat) (G' : gG) (EE' SS' : Nat → List Nat), LR h' t' G' EE' SS' → WP X (M_LW_law nm) room_1 68 E 68 10981 581 [some (.ref (1000 + 13)), some (.ref 0), some (.ref 57), some (.int (nI i))] [] h') {x1 : Int32} (hx1 : ¬ (0 ≤ x1 ∧ x1 < nI 3)) (e1 : xs (i + 1) = x1) : WP X (M_LW_law nm) room_1 68 E 68 10981 433 [some (.ref (1000 + 13)), some (.ref 0), some (.ref 57), some (.int (nI i))] [] h := by
  obtain ⟨hcp, hmo, hg, hrel, e11, f11⟩ := id a
  obtain ⟨sp, Es, Ss, pr, hq⟩ := id hcp
  have c0 := hq.1
  obtain ⟨ap0, gd0, dp0, wr0, fi0, m0⟩ := hmo.1
  have hmk := a.mok
  have ht := hg.1
  have t60 : t.length ≤ 60 := hmo.2.1.choose_spec.2.1
  refine w_aload_n d_LW_law_433 rfl rfl ?_
  refine w_aload_n d_LW_law_434 rfl rfl ?_
  refine w_iload_n d_LW_law_435 rfl ?_
  refine w_iconst (v := nI 1) d_LW_law_436 (by decide) ?_
  refine w_iadd d_LW_law_437 ?_
  refine w_topi (y := nI (i + 1)) (nI_add _ _) ?_
  refine w_ti d_LW_law_438 hs (vp_in_nI (by omega) (by omega)) ?_
  refine w_topi (y := x1) (by rw [nI_clamp (by omega)]; exact e1) ?_
  refine w_callV (as := [.int (x1)]) (st := []) d_LW_law_439 yM_CP_strings l_LW_70 vM_CP_strings c0 rfl rfl rfl rfl (m_CP_stringsB hq hx1) (by decide) (by decide) (by decide) (by decide) (Nat.le_of_ble_eq_true rfl) ?_
  rintro _ h9_1 ⟨rfl, e9_1⟩
  rw [e9_1]
  refine w_eq (st' := [.int (-1)]) rfl ?_
  refine w_aload_n d_LW_law_442 rfl rfl ?_
  refine w_aload_n d_LW_law_443 rfl rfl ?_
  refine w_iload_n d_LW_law_444 rfl ?_
  refine w_iconst (v := nI 1) d_LW_law_445 (by decide) ?_
  refine w_iadd d_LW_law_446 ?_
  refine w_topi (y := nI (i + 1)) (nI_add _ _) ?_
  refine w_ti d_LW_law_447 hs (vp_in_nI (by omega) (by omega)) ?_
  refine w_topi (y := x1) (by rw [nI_clamp (by omega)]; exact e1) ?_
  refine w_callV (as := [.int (x1)]) (st := [.int (-1)]) d_LW_law_448 yM_MO_strings l_LW_73 vM_MO_strings m0 rfl rfl rfl rfl (m_MO_stringsB hmo hx1) (by decide) (by decide) (by decide) (by decide) (Nat.le_of_ble_eq_true rfl) ?_
  rintro _ h9_2 ⟨rfl, e9_2⟩
  rw [e9_2]
  refine w_eq (st' := [.int (-1), .int (-1)]) rfl ?_
  refine w_icmp_eq (tgt := 581) d_LW_law_451 rfl (fun _ => ?_) (fun z => absurd rfl z)
  exact K _ _ _ _ _ a
set_option maxHeartbeats 4000000 in
set_option maxRecDepth 100000 in
theorem lw_14G (hT : xTab X) {h : wH} {t : List Nat} {G : gG} {EE SS : Nat → List Nat} {xs : Nat → Int32} {L i : Nat} (hs : (xo X)[13]? = some (L, xs)) (hL : L ≤ 2048) (hi : i + 4 ≤ L) (a : LR h t G EE SS) (K : ∀ (h' : wH) (t' : List Nat) (G' : gG) (EE' SS' : Nat → List Nat), LR h' t' G' EE' SS' → WP X (M_LW_law nm) room_1 68 E 68 10981 581 [some (.ref (1000 + 13)), some (.ref 0), some (.ref 57), some (.int (nI i))] [] h') {r : Nat} (hr : r < 3) {x2 : Int32} (e1 : xs (i + 1) = nI r) (e2 : xs (i + 2) = x2) : WP X (M_LW_law nm) room_1 68 E 68 10981 456 [some (.ref (1000 + 13)), some (.ref 0), some (.ref 57), some (.int (nI i))] [] h := by
  obtain ⟨hcp, hmo, hg, hrel, e11, f11⟩ := id a
  obtain ⟨sp, Es, Ss, pr, hq⟩ := id hcp
  have c0 := hq.1
  obtain ⟨ap0, gd0, dp0, wr0, fi0, m0⟩ := hmo.1
  have hmk := a.mok
  have ht := hg.1
  have t60 : t.length ≤ 60 := hmo.2.1.choose_spec.2.1
  refine w_aload_n d_LW_law_456 rfl rfl ?_
  refine w_aload_n d_LW_law_457 rfl rfl ?_
  refine w_iload_n d_LW_law_458 rfl ?_
  refine w_iconst (v := nI 1) d_LW_law_459 (by decide) ?_
  refine w_iadd d_LW_law_460 ?_
  refine w_topi (y := nI (i + 1)) (nI_add _ _) ?_
  refine w_ti d_LW_law_461 hs (vp_in_nI (by omega) (by omega)) ?_
  refine w_topi (y := nI r) (by rw [nI_clamp (by omega)]; exact e1) ?_
  refine w_aload_n d_LW_law_462 rfl rfl ?_
  refine w_iload_n d_LW_law_463 rfl ?_
  refine w_iconst (v := nI 2) d_LW_law_464 (by decide) ?_
  refine w_iadd d_LW_law_465 ?_
  refine w_topi (y := nI (i + 2)) (nI_add _ _) ?_
  refine w_ti d_LW_law_466 hs (vp_in_nI (by omega) (by omega)) ?_
  refine w_topi (y := x2) (by rw [nI_clamp (by omega)]; exact e2) ?_
  refine w_callV (as := [.int (nI r), .int (x2)]) (st := []) d_LW_law_467 yM_CP_edge l_LW_74 vM_CP_edge c0 rfl rfl rfl rfl (m_CP_edgeG hq hg hr) (by decide) (by decide) (by decide) (by decide) (Nat.le_of_ble_eq_true rfl) ?_
  rintro _ h9_1 ⟨rfl, e9_1⟩
  rw [e9_1]
  refine w_eq (st' := [.int (if x2 < 0 then -1 else match ((G r).1)[(x2).toNatClampNeg]? with | some x => nI x | none => -1)]) rfl ?_
  refine w_aload_n d_LW_law_470 rfl rfl ?_
  refine w_aload_n d_LW_law_471 rfl rfl ?_
  refine w_iload_n d_LW_law_472 rfl ?_
  refine w_iconst (v := nI 1) d_LW_law_473 (by decide) ?_
  refine w_iadd d_LW_law_474 ?_
  refine w_topi (y := nI (i + 1)) (nI_add _ _) ?_
  refine w_ti d_LW_law_475 hs (vp_in_nI (by omega) (by omega)) ?_
  refine w_topi (y := nI r) (by rw [nI_clamp (by omega)]; exact e1) ?_
  refine w_aload_n d_LW_law_476 rfl rfl ?_
  refine w_iload_n d_LW_law_477 rfl ?_
  refine w_iconst (v := nI 2) d_LW_law_478 (by decide) ?_
  refine w_iadd d_LW_law_479 ?_
  refine w_topi (y := nI (i + 2)) (nI_add _ _) ?_
  refine w_ti d_LW_law_480 hs (vp_in_nI (by omega) (by omega)) ?_
  refine w_topi (y := x2) (by rw [nI_clamp (by omega)]; exact e2) ?_
  refine w_callV (as := [.int (nI r), .int (x2)]) (st := [.int (if x2 < 0 then -1 else match ((G r).1)[(x2).toNatClampNeg]? with | some x => nI x | none => -1)]) d_LW_law_481 yM_MO_edge l_LW_78 vM_MO_edge m0 rfl rfl rfl rfl (m_MO_edgeG hmo hmk hr) (by decide) (by decide) (by decide) (by decide) (Nat.le_of_ble_eq_true rfl) ?_
  rintro _ h9_2 ⟨rfl, e9_2⟩
  rw [e9_2]
  refine w_eq (st' := [.int (if x2 < 0 then -1 else match (EE r)[(x2).toNatClampNeg]? with | some x => nI x | none => -1), .int (if x2 < 0 then -1 else match ((G r).1)[(x2).toNatClampNeg]? with | some x => nI x | none => -1)]) rfl ?_
  refine w_icmp_eq (tgt := 581) d_LW_law_484 rfl (fun _ => ?_) (fun z => absurd (by rw [(hrel r hr).1]) z)
  exact K _ _ _ _ _ a
set_option maxHeartbeats 4000000 in
set_option maxRecDepth 100000 in
theorem lw_14B (hT : xTab X) {h : wH} {t : List Nat} {G : gG} {EE SS : Nat → List Nat} {xs : Nat → Int32} {L i : Nat} (hs : (xo X)[13]? = some (L, xs)) (hL : L ≤ 2048) (hi : i + 4 ≤ L) (a : LR h t G EE SS) (K : ∀ (h' : wH) (t' : List Nat) (G' : gG) (EE' SS' : Nat → List Nat), LR h' t' G' EE' SS' → WP X (M_LW_law nm) room_1 68 E 68 10981 581 [some (.ref (1000 + 13)), some (.ref 0), some (.ref 57), some (.int (nI i))] [] h') {x1 : Int32} (hx1 : ¬ (0 ≤ x1 ∧ x1 < nI 3)) {x2 : Int32} (e1 : xs (i + 1) = x1) (e2 : xs (i + 2) = x2) : WP X (M_LW_law nm) room_1 68 E 68 10981 456 [some (.ref (1000 + 13)), some (.ref 0), some (.ref 57), some (.int (nI i))] [] h := by
  obtain ⟨hcp, hmo, hg, hrel, e11, f11⟩ := id a
  obtain ⟨sp, Es, Ss, pr, hq⟩ := id hcp
  have c0 := hq.1
  obtain ⟨ap0, gd0, dp0, wr0, fi0, m0⟩ := hmo.1
  have hmk := a.mok
  have ht := hg.1
  have t60 : t.length ≤ 60 := hmo.2.1.choose_spec.2.1
  refine w_aload_n d_LW_law_456 rfl rfl ?_
  refine w_aload_n d_LW_law_457 rfl rfl ?_
  refine w_iload_n d_LW_law_458 rfl ?_
  refine w_iconst (v := nI 1) d_LW_law_459 (by decide) ?_
  refine w_iadd d_LW_law_460 ?_
  refine w_topi (y := nI (i + 1)) (nI_add _ _) ?_
  refine w_ti d_LW_law_461 hs (vp_in_nI (by omega) (by omega)) ?_
  refine w_topi (y := x1) (by rw [nI_clamp (by omega)]; exact e1) ?_
  refine w_aload_n d_LW_law_462 rfl rfl ?_
  refine w_iload_n d_LW_law_463 rfl ?_
  refine w_iconst (v := nI 2) d_LW_law_464 (by decide) ?_
  refine w_iadd d_LW_law_465 ?_
  refine w_topi (y := nI (i + 2)) (nI_add _ _) ?_
  refine w_ti d_LW_law_466 hs (vp_in_nI (by omega) (by omega)) ?_
  refine w_topi (y := x2) (by rw [nI_clamp (by omega)]; exact e2) ?_
  refine w_callV (as := [.int (x1), .int (x2)]) (st := []) d_LW_law_467 yM_CP_edge l_LW_74 vM_CP_edge c0 rfl rfl rfl rfl (m_CP_edgeB hq hx1) (by decide) (by decide) (by decide) (by decide) (Nat.le_of_ble_eq_true rfl) ?_
  rintro _ h9_1 ⟨rfl, e9_1⟩
  rw [e9_1]
  refine w_eq (st' := [.int (-1)]) rfl ?_
  refine w_aload_n d_LW_law_470 rfl rfl ?_
  refine w_aload_n d_LW_law_471 rfl rfl ?_
  refine w_iload_n d_LW_law_472 rfl ?_
  refine w_iconst (v := nI 1) d_LW_law_473 (by decide) ?_
  refine w_iadd d_LW_law_474 ?_
  refine w_topi (y := nI (i + 1)) (nI_add _ _) ?_
  refine w_ti d_LW_law_475 hs (vp_in_nI (by omega) (by omega)) ?_
  refine w_topi (y := x1) (by rw [nI_clamp (by omega)]; exact e1) ?_
  refine w_aload_n d_LW_law_476 rfl rfl ?_
  refine w_iload_n d_LW_law_477 rfl ?_
  refine w_iconst (v := nI 2) d_LW_law_478 (by decide) ?_
  refine w_iadd d_LW_law_479 ?_
  refine w_topi (y := nI (i + 2)) (nI_add _ _) ?_
  refine w_ti d_LW_law_480 hs (vp_in_nI (by omega) (by omega)) ?_
  refine w_topi (y := x2) (by rw [nI_clamp (by omega)]; exact e2) ?_
  refine w_callV (as := [.int (x1), .int (x2)]) (st := [.int (-1)]) d_LW_law_481 yM_MO_edge l_LW_78 vM_MO_edge m0 rfl rfl rfl rfl (m_MO_edgeB hmo hx1) (by decide) (by decide) (by decide) (by decide) (Nat.le_of_ble_eq_true rfl) ?_
  rintro _ h9_2 ⟨rfl, e9_2⟩
  rw [e9_2]
  refine w_eq (st' := [.int (-1), .int (-1)]) rfl ?_
  refine w_icmp_eq (tgt := 581) d_LW_law_484 rfl (fun _ => ?_) (fun z => absurd rfl z)
  exact K _ _ _ _ _ a
set_option maxHeartbeats 4000000 in
set_option maxRecDepth 100000 in
theorem lw_15G (hT : xTab X) {h : wH} {t : List Nat} {G : gG} {EE SS : Nat → List Nat} {xs : Nat → Int32} {L i : Nat} (hs : (xo X)[13]? = some (L, xs)) (hL : L ≤ 2048) (hi : i + 4 ≤ L) (a : LR h t G EE SS) (K : ∀ (h' : wH) (t' : List Nat) (G' : gG) (EE' SS' : Nat → List Nat), LR h' t' G' EE' SS' → WP X (M_LW_law nm) room_1 68 E 68 10981 581 [some (.ref (1000 + 13)), some (.ref 0), some (.ref 57), some (.int (nI i))] [] h') {r : Nat} (hr : r < 3) {n : Nat} (hn : n < 2 ^ 31) (e1 : xs (i + 1) = nI r) (e2 : xs (i + 2) = nI n) : WP X (M_LW_law nm) room_1 68 E 68 10981 489 [some (.ref (1000 + 13)), some (.ref 0), some (.ref 57), some (.int (nI i))] [] h := by
  obtain ⟨hcp, hmo, hg, hrel, e11, f11⟩ := id a
  obtain ⟨sp, Es, Ss, pr, hq⟩ := id hcp
  have c0 := hq.1
  obtain ⟨ap0, gd0, dp0, wr0, fi0, m0⟩ := hmo.1
  have hmk := a.mok
  have ht := hg.1
  have t60 : t.length ≤ 60 := hmo.2.1.choose_spec.2.1
  refine w_aload_n d_LW_law_489 rfl rfl ?_
  refine w_aload_n d_LW_law_490 rfl rfl ?_
  refine w_iload_n d_LW_law_491 rfl ?_
  refine w_iconst (v := nI 1) d_LW_law_492 (by decide) ?_
  refine w_iadd d_LW_law_493 ?_
  refine w_topi (y := nI (i + 1)) (nI_add _ _) ?_
  refine w_ti d_LW_law_494 hs (vp_in_nI (by omega) (by omega)) ?_
  refine w_topi (y := nI r) (by rw [nI_clamp (by omega)]; exact e1) ?_
  refine w_aload_n d_LW_law_495 rfl rfl ?_
  refine w_iload_n d_LW_law_496 rfl ?_
  refine w_iconst (v := nI 2) d_LW_law_497 (by decide) ?_
  refine w_iadd d_LW_law_498 ?_
  refine w_topi (y := nI (i + 2)) (nI_add _ _) ?_
  refine w_ti d_LW_law_499 hs (vp_in_nI (by omega) (by omega)) ?_
  refine w_topi (y := nI n) (by rw [nI_clamp (by omega)]; exact e2) ?_
  refine w_callV (as := [.int (nI r), .int (nI n)]) (st := []) d_LW_law_500 yM_CP_nth l_LW_79 vM_CP_nth c0 rfl rfl rfl rfl (m_CP_nthG hq hg hr hn) (by decide) (by decide) (by decide) (by decide) (Nat.le_of_ble_eq_true rfl) ?_
  rintro _ h9_1 ⟨rfl, e9_1⟩
  rw [e9_1]
  refine w_eq (st' := [.int (match eNth ((G r).1) n with | some x => nI x | none => -1)]) rfl ?_
  refine w_aload_n d_LW_law_503 rfl rfl ?_
  refine w_aload_n d_LW_law_504 rfl rfl ?_
  refine w_iload_n d_LW_law_505 rfl ?_
  refine w_iconst (v := nI 1) d_LW_law_506 (by decide) ?_
  refine w_iadd d_LW_law_507 ?_
  refine w_topi (y := nI (i + 1)) (nI_add _ _) ?_
  refine w_ti d_LW_law_508 hs (vp_in_nI (by omega) (by omega)) ?_
  refine w_topi (y := nI r) (by rw [nI_clamp (by omega)]; exact e1) ?_
  refine w_aload_n d_LW_law_509 rfl rfl ?_
  refine w_iload_n d_LW_law_510 rfl ?_
  refine w_iconst (v := nI 2) d_LW_law_511 (by decide) ?_
  refine w_iadd d_LW_law_512 ?_
  refine w_topi (y := nI (i + 2)) (nI_add _ _) ?_
  refine w_ti d_LW_law_513 hs (vp_in_nI (by omega) (by omega)) ?_
  refine w_topi (y := nI n) (by rw [nI_clamp (by omega)]; exact e2) ?_
  refine w_callV (as := [.int (nI r), .int (nI n)]) (st := [.int (match eNth ((G r).1) n with | some x => nI x | none => -1)]) d_LW_law_514 yM_MO_nth l_LW_82 vM_MO_nth m0 rfl rfl rfl rfl (m_MO_nthG hmo hmk hr hn) (by decide) (by decide) (by decide) (by decide) (Nat.le_of_ble_eq_true rfl) ?_
  rintro _ h9_2 ⟨rfl, e9_2⟩
  rw [e9_2]
  refine w_eq (st' := [.int (match eNth (EE r) n with | some x => nI x | none => -1), .int (match eNth ((G r).1) n with | some x => nI x | none => -1)]) rfl ?_
  refine w_icmp_eq (tgt := 581) d_LW_law_517 rfl (fun _ => ?_) (fun z => absurd (by rw [(hrel r hr).1]) z)
  exact K _ _ _ _ _ a
set_option maxHeartbeats 4000000 in
set_option maxRecDepth 100000 in
theorem lw_15C (hT : xTab X) {h : wH} {t : List Nat} {G : gG} {EE SS : Nat → List Nat} {xs : Nat → Int32} {L i : Nat} (hs : (xo X)[13]? = some (L, xs)) (hL : L ≤ 2048) (hi : i + 4 ≤ L) (a : LR h t G EE SS) (K : ∀ (h' : wH) (t' : List Nat) (G' : gG) (EE' SS' : Nat → List Nat), LR h' t' G' EE' SS' → WP X (M_LW_law nm) room_1 68 E 68 10981 581 [some (.ref (1000 + 13)), some (.ref 0), some (.ref 57), some (.int (nI i))] [] h') {r : Nat} (hr : r < 3) {x2 : Int32} (hx2 : x2 < 0) (e1 : xs (i + 1) = nI r) (e2 : xs (i + 2) = x2) : WP X (M_LW_law nm) room_1 68 E 68 10981 489 [some (.ref (1000 + 13)), some (.ref 0), some (.ref 57), some (.int (nI i))] [] h := by
  obtain ⟨hcp, hmo, hg, hrel, e11, f11⟩ := id a
  obtain ⟨sp, Es, Ss, pr, hq⟩ := id hcp
  have c0 := hq.1
  obtain ⟨ap0, gd0, dp0, wr0, fi0, m0⟩ := hmo.1
  have hmk := a.mok
  have ht := hg.1
  have t60 : t.length ≤ 60 := hmo.2.1.choose_spec.2.1
  refine w_aload_n d_LW_law_489 rfl rfl ?_
  refine w_aload_n d_LW_law_490 rfl rfl ?_
  refine w_iload_n d_LW_law_491 rfl ?_
  refine w_iconst (v := nI 1) d_LW_law_492 (by decide) ?_
  refine w_iadd d_LW_law_493 ?_
  refine w_topi (y := nI (i + 1)) (nI_add _ _) ?_
  refine w_ti d_LW_law_494 hs (vp_in_nI (by omega) (by omega)) ?_
  refine w_topi (y := nI r) (by rw [nI_clamp (by omega)]; exact e1) ?_
  refine w_aload_n d_LW_law_495 rfl rfl ?_
  refine w_iload_n d_LW_law_496 rfl ?_
  refine w_iconst (v := nI 2) d_LW_law_497 (by decide) ?_
  refine w_iadd d_LW_law_498 ?_
  refine w_topi (y := nI (i + 2)) (nI_add _ _) ?_
  refine w_ti d_LW_law_499 hs (vp_in_nI (by omega) (by omega)) ?_
  refine w_topi (y := x2) (by rw [nI_clamp (by omega)]; exact e2) ?_
  refine w_callV (as := [.int (nI r), .int (x2)]) (st := []) d_LW_law_500 yM_CP_nth l_LW_79 vM_CP_nth c0 rfl rfl rfl rfl (m_CP_nthC hq hr hx2) (by decide) (by decide) (by decide) (by decide) (Nat.le_of_ble_eq_true rfl) ?_
  rintro _ h9_1 ⟨rfl, e9_1⟩
  rw [e9_1]
  refine w_eq (st' := [.int (-1)]) rfl ?_
  refine w_aload_n d_LW_law_503 rfl rfl ?_
  refine w_aload_n d_LW_law_504 rfl rfl ?_
  refine w_iload_n d_LW_law_505 rfl ?_
  refine w_iconst (v := nI 1) d_LW_law_506 (by decide) ?_
  refine w_iadd d_LW_law_507 ?_
  refine w_topi (y := nI (i + 1)) (nI_add _ _) ?_
  refine w_ti d_LW_law_508 hs (vp_in_nI (by omega) (by omega)) ?_
  refine w_topi (y := nI r) (by rw [nI_clamp (by omega)]; exact e1) ?_
  refine w_aload_n d_LW_law_509 rfl rfl ?_
  refine w_iload_n d_LW_law_510 rfl ?_
  refine w_iconst (v := nI 2) d_LW_law_511 (by decide) ?_
  refine w_iadd d_LW_law_512 ?_
  refine w_topi (y := nI (i + 2)) (nI_add _ _) ?_
  refine w_ti d_LW_law_513 hs (vp_in_nI (by omega) (by omega)) ?_
  refine w_topi (y := x2) (by rw [nI_clamp (by omega)]; exact e2) ?_
  refine w_callV (as := [.int (nI r), .int (x2)]) (st := [.int (-1)]) d_LW_law_514 yM_MO_nth l_LW_82 vM_MO_nth m0 rfl rfl rfl rfl (m_MO_nthC hmo hr hx2) (by decide) (by decide) (by decide) (by decide) (Nat.le_of_ble_eq_true rfl) ?_
  rintro _ h9_2 ⟨rfl, e9_2⟩
  rw [e9_2]
  refine w_eq (st' := [.int (-1), .int (-1)]) rfl ?_
  refine w_icmp_eq (tgt := 581) d_LW_law_517 rfl (fun _ => ?_) (fun z => absurd rfl z)
  exact K _ _ _ _ _ a
set_option maxHeartbeats 4000000 in
set_option maxRecDepth 100000 in
theorem lw_15B (hT : xTab X) {h : wH} {t : List Nat} {G : gG} {EE SS : Nat → List Nat} {xs : Nat → Int32} {L i : Nat} (hs : (xo X)[13]? = some (L, xs)) (hL : L ≤ 2048) (hi : i + 4 ≤ L) (a : LR h t G EE SS) (K : ∀ (h' : wH) (t' : List Nat) (G' : gG) (EE' SS' : Nat → List Nat), LR h' t' G' EE' SS' → WP X (M_LW_law nm) room_1 68 E 68 10981 581 [some (.ref (1000 + 13)), some (.ref 0), some (.ref 57), some (.int (nI i))] [] h') {x1 : Int32} (hx1 : ¬ (0 ≤ x1 ∧ x1 < nI 3)) {x2 : Int32} (e1 : xs (i + 1) = x1) (e2 : xs (i + 2) = x2) : WP X (M_LW_law nm) room_1 68 E 68 10981 489 [some (.ref (1000 + 13)), some (.ref 0), some (.ref 57), some (.int (nI i))] [] h := by
  obtain ⟨hcp, hmo, hg, hrel, e11, f11⟩ := id a
  obtain ⟨sp, Es, Ss, pr, hq⟩ := id hcp
  have c0 := hq.1
  obtain ⟨ap0, gd0, dp0, wr0, fi0, m0⟩ := hmo.1
  have hmk := a.mok
  have ht := hg.1
  have t60 : t.length ≤ 60 := hmo.2.1.choose_spec.2.1
  refine w_aload_n d_LW_law_489 rfl rfl ?_
  refine w_aload_n d_LW_law_490 rfl rfl ?_
  refine w_iload_n d_LW_law_491 rfl ?_
  refine w_iconst (v := nI 1) d_LW_law_492 (by decide) ?_
  refine w_iadd d_LW_law_493 ?_
  refine w_topi (y := nI (i + 1)) (nI_add _ _) ?_
  refine w_ti d_LW_law_494 hs (vp_in_nI (by omega) (by omega)) ?_
  refine w_topi (y := x1) (by rw [nI_clamp (by omega)]; exact e1) ?_
  refine w_aload_n d_LW_law_495 rfl rfl ?_
  refine w_iload_n d_LW_law_496 rfl ?_
  refine w_iconst (v := nI 2) d_LW_law_497 (by decide) ?_
  refine w_iadd d_LW_law_498 ?_
  refine w_topi (y := nI (i + 2)) (nI_add _ _) ?_
  refine w_ti d_LW_law_499 hs (vp_in_nI (by omega) (by omega)) ?_
  refine w_topi (y := x2) (by rw [nI_clamp (by omega)]; exact e2) ?_
  refine w_callV (as := [.int (x1), .int (x2)]) (st := []) d_LW_law_500 yM_CP_nth l_LW_79 vM_CP_nth c0 rfl rfl rfl rfl (m_CP_nthB hq hx1) (by decide) (by decide) (by decide) (by decide) (Nat.le_of_ble_eq_true rfl) ?_
  rintro _ h9_1 ⟨rfl, e9_1⟩
  rw [e9_1]
  refine w_eq (st' := [.int (-1)]) rfl ?_
  refine w_aload_n d_LW_law_503 rfl rfl ?_
  refine w_aload_n d_LW_law_504 rfl rfl ?_
  refine w_iload_n d_LW_law_505 rfl ?_
  refine w_iconst (v := nI 1) d_LW_law_506 (by decide) ?_
  refine w_iadd d_LW_law_507 ?_
  refine w_topi (y := nI (i + 1)) (nI_add _ _) ?_
  refine w_ti d_LW_law_508 hs (vp_in_nI (by omega) (by omega)) ?_
  refine w_topi (y := x1) (by rw [nI_clamp (by omega)]; exact e1) ?_
  refine w_aload_n d_LW_law_509 rfl rfl ?_
  refine w_iload_n d_LW_law_510 rfl ?_
  refine w_iconst (v := nI 2) d_LW_law_511 (by decide) ?_
  refine w_iadd d_LW_law_512 ?_
  refine w_topi (y := nI (i + 2)) (nI_add _ _) ?_
  refine w_ti d_LW_law_513 hs (vp_in_nI (by omega) (by omega)) ?_
  refine w_topi (y := x2) (by rw [nI_clamp (by omega)]; exact e2) ?_
  refine w_callV (as := [.int (x1), .int (x2)]) (st := [.int (-1)]) d_LW_law_514 yM_MO_nth l_LW_82 vM_MO_nth m0 rfl rfl rfl rfl (m_MO_nthB hmo hx1) (by decide) (by decide) (by decide) (by decide) (Nat.le_of_ble_eq_true rfl) ?_
  rintro _ h9_2 ⟨rfl, e9_2⟩
  rw [e9_2]
  refine w_eq (st' := [.int (-1), .int (-1)]) rfl ?_
  refine w_icmp_eq (tgt := 581) d_LW_law_517 rfl (fun _ => ?_) (fun z => absurd rfl z)
  exact K _ _ _ _ _ a
set_option maxHeartbeats 4000000 in
set_option maxRecDepth 100000 in
theorem lw_16G1 (hT : xTab X) {h : wH} {t : List Nat} {G : gG} {EE SS : Nat → List Nat} {xs : Nat → Int32} {L i : Nat} (hs : (xo X)[13]? = some (L, xs)) (hL : L ≤ 2048) (hi : i + 4 ≤ L) (a : LR h t G EE SS) (K : ∀ (h' : wH) (t' : List Nat) (G' : gG) (EE' SS' : Nat → List Nat), LR h' t' G' EE' SS' → WP X (M_LW_law nm) room_1 68 E 68 10981 581 [some (.ref (1000 + 13)), some (.ref 0), some (.ref 57), some (.int (nI i))] [] h') {r : Nat} (hr : r < 3) {k : Nat} (hk : k ≤ t.length) {x3 : Int32} (h30 : ¬ x3 = 0) (e1 : xs (i + 1) = nI r) (e2 : xs (i + 2) = nI k) (e3 : xs (i + 3) = x3) : WP X (M_LW_law nm) room_1 68 E 68 10981 522 [some (.ref (1000 + 13)), some (.ref 0), some (.ref 57), some (.int (nI i))] [] h := by
  obtain ⟨hcp, hmo, hg, hrel, e11, f11⟩ := id a
  obtain ⟨sp, Es, Ss, pr, hq⟩ := id hcp
  have c0 := hq.1
  obtain ⟨ap0, gd0, dp0, wr0, fi0, m0⟩ := hmo.1
  have hmk := a.mok
  have ht := hg.1
  have t60 : t.length ≤ 60 := hmo.2.1.choose_spec.2.1
  refine w_aload_n d_LW_law_522 rfl rfl ?_
  refine w_aload_n d_LW_law_523 rfl rfl ?_
  refine w_iload_n d_LW_law_524 rfl ?_
  refine w_iconst (v := nI 1) d_LW_law_525 (by decide) ?_
  refine w_iadd d_LW_law_526 ?_
  refine w_topi (y := nI (i + 1)) (nI_add _ _) ?_
  refine w_ti d_LW_law_527 hs (vp_in_nI (by omega) (by omega)) ?_
  refine w_topi (y := nI r) (by rw [nI_clamp (by omega)]; exact e1) ?_
  refine w_aload_n d_LW_law_528 rfl rfl ?_
  refine w_iload_n d_LW_law_529 rfl ?_
  refine w_iconst (v := nI 2) d_LW_law_530 (by decide) ?_
  refine w_iadd d_LW_law_531 ?_
  refine w_topi (y := nI (i + 2)) (nI_add _ _) ?_
  refine w_ti d_LW_law_532 hs (vp_in_nI (by omega) (by omega)) ?_
  refine w_topi (y := nI k) (by rw [nI_clamp (by omega)]; exact e2) ?_
  refine w_aload_n d_LW_law_533 rfl rfl ?_
  refine w_iload_n d_LW_law_534 rfl ?_
  refine w_iconst (v := nI 3) d_LW_law_535 (by decide) ?_
  refine w_iadd d_LW_law_536 ?_
  refine w_topi (y := nI (i + 3)) (nI_add _ _) ?_
  refine w_ti d_LW_law_537 hs (vp_in_nI (by omega) (by omega)) ?_
  refine w_topi (y := x3) (by rw [nI_clamp (by omega)]; exact e3) ?_
  refine w_if_eq (tgt := 545) d_LW_law_538 rfl (fun z => absurd z h30) (fun _ => ?_)
  refine w_iconst (v := nI 1) d_LW_law_541 (by decide) ?_
  refine w_goto (tgt := 546) d_LW_law_542 rfl ?_
  refine w_callV (as := [.int (nI r), .int (nI k), .int (nI 1)]) (st := []) d_LW_law_546 yM_CP_span l_LW_83 vM_CP_span c0 rfl rfl rfl rfl (m_CP_spanG (b := true) hq hg hr hk) (by decide) (by decide) (by decide) (by decide) (Nat.le_of_ble_eq_true rfl) ?_
  rintro _ h9_1 ⟨rfl, e9_1⟩
  rw [e9_1]
  refine w_eq (st' := [.int (nI (if true = true then sE (G r).1 (G r).2 t (t.length + 1 - k) k (fun j => decide (j = k)) k else sB0 (G r).1 (G r).2 t (t.length - k) k))]) rfl ?_
  refine w_aload_n d_LW_law_549 rfl rfl ?_
  refine w_aload_n d_LW_law_550 rfl rfl ?_
  refine w_iload_n d_LW_law_551 rfl ?_
  refine w_iconst (v := nI 1) d_LW_law_552 (by decide) ?_
  refine w_iadd d_LW_law_553 ?_
  refine w_topi (y := nI (i + 1)) (nI_add _ _) ?_
  refine w_ti d_LW_law_554 hs (vp_in_nI (by omega) (by omega)) ?_
  refine w_topi (y := nI r) (by rw [nI_clamp (by omega)]; exact e1) ?_
  refine w_aload_n d_LW_law_555 rfl rfl ?_
  refine w_iload_n d_LW_law_556 rfl ?_
  refine w_iconst (v := nI 2) d_LW_law_557 (by decide) ?_
  refine w_iadd d_LW_law_558 ?_
  refine w_topi (y := nI (i + 2)) (nI_add _ _) ?_
  refine w_ti d_LW_law_559 hs (vp_in_nI (by omega) (by omega)) ?_
  refine w_topi (y := nI k) (by rw [nI_clamp (by omega)]; exact e2) ?_
  refine w_aload_n d_LW_law_560 rfl rfl ?_
  refine w_iload_n d_LW_law_561 rfl ?_
  refine w_iconst (v := nI 3) d_LW_law_562 (by decide) ?_
  refine w_iadd d_LW_law_563 ?_
  refine w_topi (y := nI (i + 3)) (nI_add _ _) ?_
  refine w_ti d_LW_law_564 hs (vp_in_nI (by omega) (by omega)) ?_
  refine w_topi (y := x3) (by rw [nI_clamp (by omega)]; exact e3) ?_
  refine w_if_eq (tgt := 572) d_LW_law_565 rfl (fun z => absurd z h30) (fun _ => ?_)
  refine w_iconst (v := nI 1) d_LW_law_568 (by decide) ?_
  refine w_goto (tgt := 573) d_LW_law_569 rfl ?_
  refine w_callV (as := [.int (nI r), .int (nI k), .int (nI 1)]) (st := [.int (nI (if true = true then sE (G r).1 (G r).2 t (t.length + 1 - k) k (fun j => decide (j = k)) k else sB0 (G r).1 (G r).2 t (t.length - k) k))]) d_LW_law_573 yM_MO_span l_LW_87 vM_MO_span m0 rfl rfl rfl rfl (m_MO_span1 hmo hmk hr hk) (by decide) (by decide) (by decide) (by decide) (Nat.le_of_ble_eq_true rfl) ?_
  rintro _ h2 ⟨rfl, hmo2, o2⟩
  refine w_eq (st' := [.int (nI (sE (EE r) (SS r) t (t.length + 1 - k) k (fun j => decide (j = k)) k)), .int (nI (if true = true then sE (G r).1 (G r).2 t (t.length + 1 - k) k (fun j => decide (j = k)) k else sB0 (G r).1 (G r).2 t (t.length - k) k))]) rfl ?_
  refine w_icmp_eq (tgt := 581) d_LW_law_576 rfl (fun _ => ?_) (fun z => absurd (by rw [if_pos rfl, (hrel r hr).1, sE_eq (hrel r hr).2]) z)
  exact K _ t G EE SS ⟨hcp.off o2, hmo2, hg, hrel, e11, f11⟩
set_option maxHeartbeats 4000000 in
set_option maxRecDepth 100000 in
theorem lw_16C1 (hT : xTab X) {h : wH} {t : List Nat} {G : gG} {EE SS : Nat → List Nat} {xs : Nat → Int32} {L i : Nat} (hs : (xo X)[13]? = some (L, xs)) (hL : L ≤ 2048) (hi : i + 4 ≤ L) (a : LR h t G EE SS) (K : ∀ (h' : wH) (t' : List Nat) (G' : gG) (EE' SS' : Nat → List Nat), LR h' t' G' EE' SS' → WP X (M_LW_law nm) room_1 68 E 68 10981 581 [some (.ref (1000 + 13)), some (.ref 0), some (.ref 57), some (.int (nI i))] [] h') {r : Nat} (hr : r < 3) {x2 : Int32} (hx2 : ¬ (0 ≤ x2 ∧ x2 ≤ nI t.length)) {x3 : Int32} (h30 : ¬ x3 = 0) (e1 : xs (i + 1) = nI r) (e2 : xs (i + 2) = x2) (e3 : xs (i + 3) = x3) : WP X (M_LW_law nm) room_1 68 E 68 10981 522 [some (.ref (1000 + 13)), some (.ref 0), some (.ref 57), some (.int (nI i))] [] h := by
  obtain ⟨hcp, hmo, hg, hrel, e11, f11⟩ := id a
  obtain ⟨sp, Es, Ss, pr, hq⟩ := id hcp
  have c0 := hq.1
  obtain ⟨ap0, gd0, dp0, wr0, fi0, m0⟩ := hmo.1
  have hmk := a.mok
  have ht := hg.1
  have t60 : t.length ≤ 60 := hmo.2.1.choose_spec.2.1
  refine w_aload_n d_LW_law_522 rfl rfl ?_
  refine w_aload_n d_LW_law_523 rfl rfl ?_
  refine w_iload_n d_LW_law_524 rfl ?_
  refine w_iconst (v := nI 1) d_LW_law_525 (by decide) ?_
  refine w_iadd d_LW_law_526 ?_
  refine w_topi (y := nI (i + 1)) (nI_add _ _) ?_
  refine w_ti d_LW_law_527 hs (vp_in_nI (by omega) (by omega)) ?_
  refine w_topi (y := nI r) (by rw [nI_clamp (by omega)]; exact e1) ?_
  refine w_aload_n d_LW_law_528 rfl rfl ?_
  refine w_iload_n d_LW_law_529 rfl ?_
  refine w_iconst (v := nI 2) d_LW_law_530 (by decide) ?_
  refine w_iadd d_LW_law_531 ?_
  refine w_topi (y := nI (i + 2)) (nI_add _ _) ?_
  refine w_ti d_LW_law_532 hs (vp_in_nI (by omega) (by omega)) ?_
  refine w_topi (y := x2) (by rw [nI_clamp (by omega)]; exact e2) ?_
  refine w_aload_n d_LW_law_533 rfl rfl ?_
  refine w_iload_n d_LW_law_534 rfl ?_
  refine w_iconst (v := nI 3) d_LW_law_535 (by decide) ?_
  refine w_iadd d_LW_law_536 ?_
  refine w_topi (y := nI (i + 3)) (nI_add _ _) ?_
  refine w_ti d_LW_law_537 hs (vp_in_nI (by omega) (by omega)) ?_
  refine w_topi (y := x3) (by rw [nI_clamp (by omega)]; exact e3) ?_
  refine w_if_eq (tgt := 545) d_LW_law_538 rfl (fun z => absurd z h30) (fun _ => ?_)
  refine w_iconst (v := nI 1) d_LW_law_541 (by decide) ?_
  refine w_goto (tgt := 546) d_LW_law_542 rfl ?_
  refine w_callV (as := [.int (nI r), .int (x2), .int (nI 1)]) (st := []) d_LW_law_546 yM_CP_span l_LW_83 vM_CP_span c0 rfl rfl rfl rfl (m_CP_spanC hq hr hx2) (by decide) (by decide) (by decide) (by decide) (Nat.le_of_ble_eq_true rfl) ?_
  rintro _ h9_1 ⟨rfl, e9_1⟩
  rw [e9_1]
  refine w_eq (st' := [.int (-1)]) rfl ?_
  refine w_aload_n d_LW_law_549 rfl rfl ?_
  refine w_aload_n d_LW_law_550 rfl rfl ?_
  refine w_iload_n d_LW_law_551 rfl ?_
  refine w_iconst (v := nI 1) d_LW_law_552 (by decide) ?_
  refine w_iadd d_LW_law_553 ?_
  refine w_topi (y := nI (i + 1)) (nI_add _ _) ?_
  refine w_ti d_LW_law_554 hs (vp_in_nI (by omega) (by omega)) ?_
  refine w_topi (y := nI r) (by rw [nI_clamp (by omega)]; exact e1) ?_
  refine w_aload_n d_LW_law_555 rfl rfl ?_
  refine w_iload_n d_LW_law_556 rfl ?_
  refine w_iconst (v := nI 2) d_LW_law_557 (by decide) ?_
  refine w_iadd d_LW_law_558 ?_
  refine w_topi (y := nI (i + 2)) (nI_add _ _) ?_
  refine w_ti d_LW_law_559 hs (vp_in_nI (by omega) (by omega)) ?_
  refine w_topi (y := x2) (by rw [nI_clamp (by omega)]; exact e2) ?_
  refine w_aload_n d_LW_law_560 rfl rfl ?_
  refine w_iload_n d_LW_law_561 rfl ?_
  refine w_iconst (v := nI 3) d_LW_law_562 (by decide) ?_
  refine w_iadd d_LW_law_563 ?_
  refine w_topi (y := nI (i + 3)) (nI_add _ _) ?_
  refine w_ti d_LW_law_564 hs (vp_in_nI (by omega) (by omega)) ?_
  refine w_topi (y := x3) (by rw [nI_clamp (by omega)]; exact e3) ?_
  refine w_if_eq (tgt := 572) d_LW_law_565 rfl (fun z => absurd z h30) (fun _ => ?_)
  refine w_iconst (v := nI 1) d_LW_law_568 (by decide) ?_
  refine w_goto (tgt := 573) d_LW_law_569 rfl ?_
  refine w_callV (as := [.int (nI r), .int (x2), .int (nI 1)]) (st := [.int (-1)]) d_LW_law_573 yM_MO_span l_LW_87 vM_MO_span m0 rfl rfl rfl rfl (m_MO_spanC hmo hr hx2) (by decide) (by decide) (by decide) (by decide) (Nat.le_of_ble_eq_true rfl) ?_
  rintro _ h9_2 ⟨rfl, e9_2⟩
  rw [e9_2]
  refine w_eq (st' := [.int (-1), .int (-1)]) rfl ?_
  refine w_icmp_eq (tgt := 581) d_LW_law_576 rfl (fun _ => ?_) (fun z => absurd rfl z)
  exact K _ _ _ _ _ a
set_option maxHeartbeats 4000000 in
set_option maxRecDepth 100000 in
theorem lw_16B1 (hT : xTab X) {h : wH} {t : List Nat} {G : gG} {EE SS : Nat → List Nat} {xs : Nat → Int32} {L i : Nat} (hs : (xo X)[13]? = some (L, xs)) (hL : L ≤ 2048) (hi : i + 4 ≤ L) (a : LR h t G EE SS) (K : ∀ (h' : wH) (t' : List Nat) (G' : gG) (EE' SS' : Nat → List Nat), LR h' t' G' EE' SS' → WP X (M_LW_law nm) room_1 68 E 68 10981 581 [some (.ref (1000 + 13)), some (.ref 0), some (.ref 57), some (.int (nI i))] [] h') {x1 : Int32} (hx1 : ¬ (0 ≤ x1 ∧ x1 < nI 3)) {x2 : Int32} {x3 : Int32} (h30 : ¬ x3 = 0) (e1 : xs (i + 1) = x1) (e2 : xs (i + 2) = x2) (e3 : xs (i + 3) = x3) : WP X (M_LW_law nm) room_1 68 E 68 10981 522 [some (.ref (1000 + 13)), some (.ref 0), some (.ref 57), some (.int (nI i))] [] h := by
  obtain ⟨hcp, hmo, hg, hrel, e11, f11⟩ := id a
  obtain ⟨sp, Es, Ss, pr, hq⟩ := id hcp
  have c0 := hq.1
  obtain ⟨ap0, gd0, dp0, wr0, fi0, m0⟩ := hmo.1
  have hmk := a.mok
  have ht := hg.1
  have t60 : t.length ≤ 60 := hmo.2.1.choose_spec.2.1
  refine w_aload_n d_LW_law_522 rfl rfl ?_
  refine w_aload_n d_LW_law_523 rfl rfl ?_
  refine w_iload_n d_LW_law_524 rfl ?_
  refine w_iconst (v := nI 1) d_LW_law_525 (by decide) ?_
  refine w_iadd d_LW_law_526 ?_
  refine w_topi (y := nI (i + 1)) (nI_add _ _) ?_
  refine w_ti d_LW_law_527 hs (vp_in_nI (by omega) (by omega)) ?_
  refine w_topi (y := x1) (by rw [nI_clamp (by omega)]; exact e1) ?_
  refine w_aload_n d_LW_law_528 rfl rfl ?_
  refine w_iload_n d_LW_law_529 rfl ?_
  refine w_iconst (v := nI 2) d_LW_law_530 (by decide) ?_
  refine w_iadd d_LW_law_531 ?_
  refine w_topi (y := nI (i + 2)) (nI_add _ _) ?_
  refine w_ti d_LW_law_532 hs (vp_in_nI (by omega) (by omega)) ?_
  refine w_topi (y := x2) (by rw [nI_clamp (by omega)]; exact e2) ?_
  refine w_aload_n d_LW_law_533 rfl rfl ?_
  refine w_iload_n d_LW_law_534 rfl ?_
  refine w_iconst (v := nI 3) d_LW_law_535 (by decide) ?_
  refine w_iadd d_LW_law_536 ?_
  refine w_topi (y := nI (i + 3)) (nI_add _ _) ?_
  refine w_ti d_LW_law_537 hs (vp_in_nI (by omega) (by omega)) ?_
  refine w_topi (y := x3) (by rw [nI_clamp (by omega)]; exact e3) ?_
  refine w_if_eq (tgt := 545) d_LW_law_538 rfl (fun z => absurd z h30) (fun _ => ?_)
  refine w_iconst (v := nI 1) d_LW_law_541 (by decide) ?_
  refine w_goto (tgt := 546) d_LW_law_542 rfl ?_
  refine w_callV (as := [.int (x1), .int (x2), .int (nI 1)]) (st := []) d_LW_law_546 yM_CP_span l_LW_83 vM_CP_span c0 rfl rfl rfl rfl (m_CP_spanB hq hx1) (by decide) (by decide) (by decide) (by decide) (Nat.le_of_ble_eq_true rfl) ?_
  rintro _ h9_1 ⟨rfl, e9_1⟩
  rw [e9_1]
  refine w_eq (st' := [.int (-1)]) rfl ?_
  refine w_aload_n d_LW_law_549 rfl rfl ?_
  refine w_aload_n d_LW_law_550 rfl rfl ?_
  refine w_iload_n d_LW_law_551 rfl ?_
  refine w_iconst (v := nI 1) d_LW_law_552 (by decide) ?_
  refine w_iadd d_LW_law_553 ?_
  refine w_topi (y := nI (i + 1)) (nI_add _ _) ?_
  refine w_ti d_LW_law_554 hs (vp_in_nI (by omega) (by omega)) ?_
  refine w_topi (y := x1) (by rw [nI_clamp (by omega)]; exact e1) ?_
  refine w_aload_n d_LW_law_555 rfl rfl ?_
  refine w_iload_n d_LW_law_556 rfl ?_
  refine w_iconst (v := nI 2) d_LW_law_557 (by decide) ?_
  refine w_iadd d_LW_law_558 ?_
  refine w_topi (y := nI (i + 2)) (nI_add _ _) ?_
  refine w_ti d_LW_law_559 hs (vp_in_nI (by omega) (by omega)) ?_
  refine w_topi (y := x2) (by rw [nI_clamp (by omega)]; exact e2) ?_
  refine w_aload_n d_LW_law_560 rfl rfl ?_
  refine w_iload_n d_LW_law_561 rfl ?_
  refine w_iconst (v := nI 3) d_LW_law_562 (by decide) ?_
  refine w_iadd d_LW_law_563 ?_
  refine w_topi (y := nI (i + 3)) (nI_add _ _) ?_
  refine w_ti d_LW_law_564 hs (vp_in_nI (by omega) (by omega)) ?_
  refine w_topi (y := x3) (by rw [nI_clamp (by omega)]; exact e3) ?_
  refine w_if_eq (tgt := 572) d_LW_law_565 rfl (fun z => absurd z h30) (fun _ => ?_)
  refine w_iconst (v := nI 1) d_LW_law_568 (by decide) ?_
  refine w_goto (tgt := 573) d_LW_law_569 rfl ?_
  refine w_callV (as := [.int (x1), .int (x2), .int (nI 1)]) (st := [.int (-1)]) d_LW_law_573 yM_MO_span l_LW_87 vM_MO_span m0 rfl rfl rfl rfl (m_MO_spanB hmo hx1) (by decide) (by decide) (by decide) (by decide) (Nat.le_of_ble_eq_true rfl) ?_
  rintro _ h9_2 ⟨rfl, e9_2⟩
  rw [e9_2]
  refine w_eq (st' := [.int (-1), .int (-1)]) rfl ?_
  refine w_icmp_eq (tgt := 581) d_LW_law_576 rfl (fun _ => ?_) (fun z => absurd rfl z)
  exact K _ _ _ _ _ a
set_option maxHeartbeats 4000000 in
set_option maxRecDepth 100000 in
theorem lw_16G0 (hT : xTab X) {h : wH} {t : List Nat} {G : gG} {EE SS : Nat → List Nat} {xs : Nat → Int32} {L i : Nat} (hs : (xo X)[13]? = some (L, xs)) (hL : L ≤ 2048) (hi : i + 4 ≤ L) (a : LR h t G EE SS) (K : ∀ (h' : wH) (t' : List Nat) (G' : gG) (EE' SS' : Nat → List Nat), LR h' t' G' EE' SS' → WP X (M_LW_law nm) room_1 68 E 68 10981 581 [some (.ref (1000 + 13)), some (.ref 0), some (.ref 57), some (.int (nI i))] [] h') {r : Nat} (hr : r < 3) {k : Nat} (hk : k ≤ t.length) {x3 : Int32} (h30 : x3 = 0) (e1 : xs (i + 1) = nI r) (e2 : xs (i + 2) = nI k) (e3 : xs (i + 3) = x3) : WP X (M_LW_law nm) room_1 68 E 68 10981 522 [some (.ref (1000 + 13)), some (.ref 0), some (.ref 57), some (.int (nI i))] [] h := by
  obtain ⟨hcp, hmo, hg, hrel, e11, f11⟩ := id a
  obtain ⟨sp, Es, Ss, pr, hq⟩ := id hcp
  have c0 := hq.1
  obtain ⟨ap0, gd0, dp0, wr0, fi0, m0⟩ := hmo.1
  have hmk := a.mok
  have ht := hg.1
  have t60 : t.length ≤ 60 := hmo.2.1.choose_spec.2.1
  refine w_aload_n d_LW_law_522 rfl rfl ?_
  refine w_aload_n d_LW_law_523 rfl rfl ?_
  refine w_iload_n d_LW_law_524 rfl ?_
  refine w_iconst (v := nI 1) d_LW_law_525 (by decide) ?_
  refine w_iadd d_LW_law_526 ?_
  refine w_topi (y := nI (i + 1)) (nI_add _ _) ?_
  refine w_ti d_LW_law_527 hs (vp_in_nI (by omega) (by omega)) ?_
  refine w_topi (y := nI r) (by rw [nI_clamp (by omega)]; exact e1) ?_
  refine w_aload_n d_LW_law_528 rfl rfl ?_
  refine w_iload_n d_LW_law_529 rfl ?_
  refine w_iconst (v := nI 2) d_LW_law_530 (by decide) ?_
  refine w_iadd d_LW_law_531 ?_
  refine w_topi (y := nI (i + 2)) (nI_add _ _) ?_
  refine w_ti d_LW_law_532 hs (vp_in_nI (by omega) (by omega)) ?_
  refine w_topi (y := nI k) (by rw [nI_clamp (by omega)]; exact e2) ?_
  refine w_aload_n d_LW_law_533 rfl rfl ?_
  refine w_iload_n d_LW_law_534 rfl ?_
  refine w_iconst (v := nI 3) d_LW_law_535 (by decide) ?_
  refine w_iadd d_LW_law_536 ?_
  refine w_topi (y := nI (i + 3)) (nI_add _ _) ?_
  refine w_ti d_LW_law_537 hs (vp_in_nI (by omega) (by omega)) ?_
  refine w_topi (y := x3) (by rw [nI_clamp (by omega)]; exact e3) ?_
  refine w_if_eq (tgt := 545) d_LW_law_538 rfl (fun _ => ?_) (fun z => absurd h30 z)
  refine w_iconst (v := nI 0) d_LW_law_545 (by decide) ?_
  refine w_callV (as := [.int (nI r), .int (nI k), .int (nI 0)]) (st := []) d_LW_law_546 yM_CP_span l_LW_83 vM_CP_span c0 rfl rfl rfl rfl (m_CP_spanG (b := false) hq hg hr hk) (by decide) (by decide) (by decide) (by decide) (Nat.le_of_ble_eq_true rfl) ?_
  rintro _ h9_1 ⟨rfl, e9_1⟩
  rw [e9_1]
  refine w_eq (st' := [.int (nI (if false = true then sE (G r).1 (G r).2 t (t.length + 1 - k) k (fun j => decide (j = k)) k else sB0 (G r).1 (G r).2 t (t.length - k) k))]) rfl ?_
  refine w_aload_n d_LW_law_549 rfl rfl ?_
  refine w_aload_n d_LW_law_550 rfl rfl ?_
  refine w_iload_n d_LW_law_551 rfl ?_
  refine w_iconst (v := nI 1) d_LW_law_552 (by decide) ?_
  refine w_iadd d_LW_law_553 ?_
  refine w_topi (y := nI (i + 1)) (nI_add _ _) ?_
  refine w_ti d_LW_law_554 hs (vp_in_nI (by omega) (by omega)) ?_
  refine w_topi (y := nI r) (by rw [nI_clamp (by omega)]; exact e1) ?_
  refine w_aload_n d_LW_law_555 rfl rfl ?_
  refine w_iload_n d_LW_law_556 rfl ?_
  refine w_iconst (v := nI 2) d_LW_law_557 (by decide) ?_
  refine w_iadd d_LW_law_558 ?_
  refine w_topi (y := nI (i + 2)) (nI_add _ _) ?_
  refine w_ti d_LW_law_559 hs (vp_in_nI (by omega) (by omega)) ?_
  refine w_topi (y := nI k) (by rw [nI_clamp (by omega)]; exact e2) ?_
  refine w_aload_n d_LW_law_560 rfl rfl ?_
  refine w_iload_n d_LW_law_561 rfl ?_
  refine w_iconst (v := nI 3) d_LW_law_562 (by decide) ?_
  refine w_iadd d_LW_law_563 ?_
  refine w_topi (y := nI (i + 3)) (nI_add _ _) ?_
  refine w_ti d_LW_law_564 hs (vp_in_nI (by omega) (by omega)) ?_
  refine w_topi (y := x3) (by rw [nI_clamp (by omega)]; exact e3) ?_
  refine w_if_eq (tgt := 572) d_LW_law_565 rfl (fun _ => ?_) (fun z => absurd h30 z)
  refine w_iconst (v := nI 0) d_LW_law_572 (by decide) ?_
  refine w_callV (as := [.int (nI r), .int (nI k), .int (nI 0)]) (st := [.int (nI (if false = true then sE (G r).1 (G r).2 t (t.length + 1 - k) k (fun j => decide (j = k)) k else sB0 (G r).1 (G r).2 t (t.length - k) k))]) d_LW_law_573 yM_MO_span l_LW_87 vM_MO_span m0 rfl rfl rfl rfl (m_MO_span0 hmo hmk hr hk) (by decide) (by decide) (by decide) (by decide) (Nat.le_of_ble_eq_true rfl) ?_
  rintro _ h2 ⟨rfl, hmo2, o2⟩
  refine w_eq (st' := [.int (nI (sB0 (EE r) (SS r) t (t.length - k) k)), .int (nI (if false = true then sE (G r).1 (G r).2 t (t.length + 1 - k) k (fun j => decide (j = k)) k else sB0 (G r).1 (G r).2 t (t.length - k) k))]) rfl ?_
  refine w_icmp_eq (tgt := 581) d_LW_law_576 rfl (fun _ => ?_) (fun z => absurd (by rw [if_neg (by decide), (hrel r hr).1, sB0_eq (hrel r hr).2]) z)
  exact K _ t G EE SS ⟨hcp.off o2, hmo2, hg, hrel, e11, f11⟩
set_option maxHeartbeats 4000000 in
set_option maxRecDepth 100000 in
theorem lw_16C0 (hT : xTab X) {h : wH} {t : List Nat} {G : gG} {EE SS : Nat → List Nat} {xs : Nat → Int32} {L i : Nat} (hs : (xo X)[13]? = some (L, xs)) (hL : L ≤ 2048) (hi : i + 4 ≤ L) (a : LR h t G EE SS) (K : ∀ (h' : wH) (t' : List Nat) (G' : gG) (EE' SS' : Nat → List Nat), LR h' t' G' EE' SS' → WP X (M_LW_law nm) room_1 68 E 68 10981 581 [some (.ref (1000 + 13)), some (.ref 0), some (.ref 57), some (.int (nI i))] [] h') {r : Nat} (hr : r < 3) {x2 : Int32} (hx2 : ¬ (0 ≤ x2 ∧ x2 ≤ nI t.length)) {x3 : Int32} (h30 : x3 = 0) (e1 : xs (i + 1) = nI r) (e2 : xs (i + 2) = x2) (e3 : xs (i + 3) = x3) : WP X (M_LW_law nm) room_1 68 E 68 10981 522 [some (.ref (1000 + 13)), some (.ref 0), some (.ref 57), some (.int (nI i))] [] h := by
  obtain ⟨hcp, hmo, hg, hrel, e11, f11⟩ := id a
  obtain ⟨sp, Es, Ss, pr, hq⟩ := id hcp
  have c0 := hq.1
  obtain ⟨ap0, gd0, dp0, wr0, fi0, m0⟩ := hmo.1
  have hmk := a.mok
  have ht := hg.1
  have t60 : t.length ≤ 60 := hmo.2.1.choose_spec.2.1
  refine w_aload_n d_LW_law_522 rfl rfl ?_
  refine w_aload_n d_LW_law_523 rfl rfl ?_
  refine w_iload_n d_LW_law_524 rfl ?_
  refine w_iconst (v := nI 1) d_LW_law_525 (by decide) ?_
  refine w_iadd d_LW_law_526 ?_
  refine w_topi (y := nI (i + 1)) (nI_add _ _) ?_
  refine w_ti d_LW_law_527 hs (vp_in_nI (by omega) (by omega)) ?_
  refine w_topi (y := nI r) (by rw [nI_clamp (by omega)]; exact e1) ?_
  refine w_aload_n d_LW_law_528 rfl rfl ?_
  refine w_iload_n d_LW_law_529 rfl ?_
  refine w_iconst (v := nI 2) d_LW_law_530 (by decide) ?_
  refine w_iadd d_LW_law_531 ?_
  refine w_topi (y := nI (i + 2)) (nI_add _ _) ?_
  refine w_ti d_LW_law_532 hs (vp_in_nI (by omega) (by omega)) ?_
  refine w_topi (y := x2) (by rw [nI_clamp (by omega)]; exact e2) ?_
  refine w_aload_n d_LW_law_533 rfl rfl ?_
  refine w_iload_n d_LW_law_534 rfl ?_
  refine w_iconst (v := nI 3) d_LW_law_535 (by decide) ?_
  refine w_iadd d_LW_law_536 ?_
  refine w_topi (y := nI (i + 3)) (nI_add _ _) ?_
  refine w_ti d_LW_law_537 hs (vp_in_nI (by omega) (by omega)) ?_
  refine w_topi (y := x3) (by rw [nI_clamp (by omega)]; exact e3) ?_
  refine w_if_eq (tgt := 545) d_LW_law_538 rfl (fun _ => ?_) (fun z => absurd h30 z)
  refine w_iconst (v := nI 0) d_LW_law_545 (by decide) ?_
  refine w_callV (as := [.int (nI r), .int (x2), .int (nI 0)]) (st := []) d_LW_law_546 yM_CP_span l_LW_83 vM_CP_span c0 rfl rfl rfl rfl (m_CP_spanC hq hr hx2) (by decide) (by decide) (by decide) (by decide) (Nat.le_of_ble_eq_true rfl) ?_
  rintro _ h9_1 ⟨rfl, e9_1⟩
  rw [e9_1]
  refine w_eq (st' := [.int (-1)]) rfl ?_
  refine w_aload_n d_LW_law_549 rfl rfl ?_
  refine w_aload_n d_LW_law_550 rfl rfl ?_
  refine w_iload_n d_LW_law_551 rfl ?_
  refine w_iconst (v := nI 1) d_LW_law_552 (by decide) ?_
  refine w_iadd d_LW_law_553 ?_
  refine w_topi (y := nI (i + 1)) (nI_add _ _) ?_
  refine w_ti d_LW_law_554 hs (vp_in_nI (by omega) (by omega)) ?_
  refine w_topi (y := nI r) (by rw [nI_clamp (by omega)]; exact e1) ?_
  refine w_aload_n d_LW_law_555 rfl rfl ?_
  refine w_iload_n d_LW_law_556 rfl ?_
  refine w_iconst (v := nI 2) d_LW_law_557 (by decide) ?_
  refine w_iadd d_LW_law_558 ?_
  refine w_topi (y := nI (i + 2)) (nI_add _ _) ?_
  refine w_ti d_LW_law_559 hs (vp_in_nI (by omega) (by omega)) ?_
  refine w_topi (y := x2) (by rw [nI_clamp (by omega)]; exact e2) ?_
  refine w_aload_n d_LW_law_560 rfl rfl ?_
  refine w_iload_n d_LW_law_561 rfl ?_
  refine w_iconst (v := nI 3) d_LW_law_562 (by decide) ?_
  refine w_iadd d_LW_law_563 ?_
  refine w_topi (y := nI (i + 3)) (nI_add _ _) ?_
  refine w_ti d_LW_law_564 hs (vp_in_nI (by omega) (by omega)) ?_
  refine w_topi (y := x3) (by rw [nI_clamp (by omega)]; exact e3) ?_
  refine w_if_eq (tgt := 572) d_LW_law_565 rfl (fun _ => ?_) (fun z => absurd h30 z)
  refine w_iconst (v := nI 0) d_LW_law_572 (by decide) ?_
  refine w_callV (as := [.int (nI r), .int (x2), .int (nI 0)]) (st := [.int (-1)]) d_LW_law_573 yM_MO_span l_LW_87 vM_MO_span m0 rfl rfl rfl rfl (m_MO_spanC hmo hr hx2) (by decide) (by decide) (by decide) (by decide) (Nat.le_of_ble_eq_true rfl) ?_
  rintro _ h9_2 ⟨rfl, e9_2⟩
  rw [e9_2]
  refine w_eq (st' := [.int (-1), .int (-1)]) rfl ?_
  refine w_icmp_eq (tgt := 581) d_LW_law_576 rfl (fun _ => ?_) (fun z => absurd rfl z)
  exact K _ _ _ _ _ a
set_option maxHeartbeats 4000000 in
set_option maxRecDepth 100000 in
theorem lw_16B0 (hT : xTab X) {h : wH} {t : List Nat} {G : gG} {EE SS : Nat → List Nat} {xs : Nat → Int32} {L i : Nat} (hs : (xo X)[13]? = some (L, xs)) (hL : L ≤ 2048) (hi : i + 4 ≤ L) (a : LR h t G EE SS) (K : ∀ (h' : wH) (t' : List Nat) (G' : gG) (EE' SS' : Nat → List Nat), LR h' t' G' EE' SS' → WP X (M_LW_law nm) room_1 68 E 68 10981 581 [some (.ref (1000 + 13)), some (.ref 0), some (.ref 57), some (.int (nI i))] [] h') {x1 : Int32} (hx1 : ¬ (0 ≤ x1 ∧ x1 < nI 3)) {x2 : Int32} {x3 : Int32} (h30 : x3 = 0) (e1 : xs (i + 1) = x1) (e2 : xs (i + 2) = x2) (e3 : xs (i + 3) = x3) : WP X (M_LW_law nm) room_1 68 E 68 10981 522 [some (.ref (1000 + 13)), some (.ref 0), some (.ref 57), some (.int (nI i))] [] h := by
  obtain ⟨hcp, hmo, hg, hrel, e11, f11⟩ := id a
  obtain ⟨sp, Es, Ss, pr, hq⟩ := id hcp
  have c0 := hq.1
  obtain ⟨ap0, gd0, dp0, wr0, fi0, m0⟩ := hmo.1
  have hmk := a.mok
  have ht := hg.1
  have t60 : t.length ≤ 60 := hmo.2.1.choose_spec.2.1
  refine w_aload_n d_LW_law_522 rfl rfl ?_
  refine w_aload_n d_LW_law_523 rfl rfl ?_
  refine w_iload_n d_LW_law_524 rfl ?_
  refine w_iconst (v := nI 1) d_LW_law_525 (by decide) ?_
  refine w_iadd d_LW_law_526 ?_
  refine w_topi (y := nI (i + 1)) (nI_add _ _) ?_
  refine w_ti d_LW_law_527 hs (vp_in_nI (by omega) (by omega)) ?_
  refine w_topi (y := x1) (by rw [nI_clamp (by omega)]; exact e1) ?_
  refine w_aload_n d_LW_law_528 rfl rfl ?_
  refine w_iload_n d_LW_law_529 rfl ?_
  refine w_iconst (v := nI 2) d_LW_law_530 (by decide) ?_
  refine w_iadd d_LW_law_531 ?_
  refine w_topi (y := nI (i + 2)) (nI_add _ _) ?_
  refine w_ti d_LW_law_532 hs (vp_in_nI (by omega) (by omega)) ?_
  refine w_topi (y := x2) (by rw [nI_clamp (by omega)]; exact e2) ?_
  refine w_aload_n d_LW_law_533 rfl rfl ?_
  refine w_iload_n d_LW_law_534 rfl ?_
  refine w_iconst (v := nI 3) d_LW_law_535 (by decide) ?_
  refine w_iadd d_LW_law_536 ?_
  refine w_topi (y := nI (i + 3)) (nI_add _ _) ?_
  refine w_ti d_LW_law_537 hs (vp_in_nI (by omega) (by omega)) ?_
  refine w_topi (y := x3) (by rw [nI_clamp (by omega)]; exact e3) ?_
  refine w_if_eq (tgt := 545) d_LW_law_538 rfl (fun _ => ?_) (fun z => absurd h30 z)
  refine w_iconst (v := nI 0) d_LW_law_545 (by decide) ?_
  refine w_callV (as := [.int (x1), .int (x2), .int (nI 0)]) (st := []) d_LW_law_546 yM_CP_span l_LW_83 vM_CP_span c0 rfl rfl rfl rfl (m_CP_spanB hq hx1) (by decide) (by decide) (by decide) (by decide) (Nat.le_of_ble_eq_true rfl) ?_
  rintro _ h9_1 ⟨rfl, e9_1⟩
  rw [e9_1]
  refine w_eq (st' := [.int (-1)]) rfl ?_
  refine w_aload_n d_LW_law_549 rfl rfl ?_
  refine w_aload_n d_LW_law_550 rfl rfl ?_
  refine w_iload_n d_LW_law_551 rfl ?_
  refine w_iconst (v := nI 1) d_LW_law_552 (by decide) ?_
  refine w_iadd d_LW_law_553 ?_
  refine w_topi (y := nI (i + 1)) (nI_add _ _) ?_
  refine w_ti d_LW_law_554 hs (vp_in_nI (by omega) (by omega)) ?_
  refine w_topi (y := x1) (by rw [nI_clamp (by omega)]; exact e1) ?_
  refine w_aload_n d_LW_law_555 rfl rfl ?_
  refine w_iload_n d_LW_law_556 rfl ?_
  refine w_iconst (v := nI 2) d_LW_law_557 (by decide) ?_
  refine w_iadd d_LW_law_558 ?_
  refine w_topi (y := nI (i + 2)) (nI_add _ _) ?_
  refine w_ti d_LW_law_559 hs (vp_in_nI (by omega) (by omega)) ?_
  refine w_topi (y := x2) (by rw [nI_clamp (by omega)]; exact e2) ?_
  refine w_aload_n d_LW_law_560 rfl rfl ?_
  refine w_iload_n d_LW_law_561 rfl ?_
  refine w_iconst (v := nI 3) d_LW_law_562 (by decide) ?_
  refine w_iadd d_LW_law_563 ?_
  refine w_topi (y := nI (i + 3)) (nI_add _ _) ?_
  refine w_ti d_LW_law_564 hs (vp_in_nI (by omega) (by omega)) ?_
  refine w_topi (y := x3) (by rw [nI_clamp (by omega)]; exact e3) ?_
  refine w_if_eq (tgt := 572) d_LW_law_565 rfl (fun _ => ?_) (fun z => absurd h30 z)
  refine w_iconst (v := nI 0) d_LW_law_572 (by decide) ?_
  refine w_callV (as := [.int (x1), .int (x2), .int (nI 0)]) (st := [.int (-1)]) d_LW_law_573 yM_MO_span l_LW_87 vM_MO_span m0 rfl rfl rfl rfl (m_MO_spanB hmo hx1) (by decide) (by decide) (by decide) (by decide) (Nat.le_of_ble_eq_true rfl) ?_
  rintro _ h9_2 ⟨rfl, e9_2⟩
  rw [e9_2]
  refine w_eq (st' := [.int (-1), .int (-1)]) rfl ?_
  refine w_icmp_eq (tgt := 581) d_LW_law_576 rfl (fun _ => ?_) (fun z => absurd rfl z)
  exact K _ _ _ _ _ a
theorem lw_c0 (hT : xTab X) {h : wH} {t : List Nat} {G : gG} {EE SS : Nat → List Nat} {xs : Nat → Int32} {L i : Nat} (hs : (xo X)[13]? = some (L, xs)) (hL : L ≤ 2048) (hi : i + 4 ≤ L) (a : LR h t G EE SS) (K : ∀ (h' : wH) (t' : List Nat) (G' : gG) (EE' SS' : Nat → List Nat), LR h' t' G' EE' SS' → WP X (M_LW_law nm) room_1 68 E 68 10981 581 [some (.ref (1000 + 13)), some (.ref 0), some (.ref 57), some (.int (nI i))] [] h') : WP X (M_LW_law nm) room_1 68 E 68 10981 116 [some (.ref (1000 + 13)), some (.ref 0), some (.ref 57), some (.int (nI i))] [] h := by
  rcases cp_c (xs (i + 1)) with ⟨c, hc, e1⟩ | hx1
  · exact lw_0G hT hs hL hi a K hc e1
  · exact lw_0B hT hs hL hi a K hx1 rfl
theorem lw_c1 (hT : xTab X) {h : wH} {t : List Nat} {G : gG} {EE SS : Nat → List Nat} {xs : Nat → Int32} {L i : Nat} (hs : (xo X)[13]? = some (L, xs)) (hL : L ≤ 2048) (hi : i + 4 ≤ L) (a : LR h t G EE SS) (K : ∀ (h' : wH) (t' : List Nat) (G' : gG) (EE' SS' : Nat → List Nat), LR h' t' G' EE' SS' → WP X (M_LW_law nm) room_1 68 E 68 10981 581 [some (.ref (1000 + 13)), some (.ref 0), some (.ref 57), some (.int (nI i))] [] h') : WP X (M_LW_law nm) room_1 68 E 68 10981 139 [some (.ref (1000 + 13)), some (.ref 0), some (.ref 57), some (.int (nI i))] [] h := by
  exact lw_1 hT hs hL hi a K
theorem lw_c2 (hT : xTab X) {h : wH} {t : List Nat} {G : gG} {EE SS : Nat → List Nat} {xs : Nat → Int32} {L i : Nat} (hs : (xo X)[13]? = some (L, xs)) (hL : L ≤ 2048) (hi : i + 4 ≤ L) (a : LR h t G EE SS) (K : ∀ (h' : wH) (t' : List Nat) (G' : gG) (EE' SS' : Nat → List Nat), LR h' t' G' EE' SS' → WP X (M_LW_law nm) room_1 68 E 68 10981 581 [some (.ref (1000 + 13)), some (.ref 0), some (.ref 57), some (.int (nI i))] [] h') : WP X (M_LW_law nm) room_1 68 E 68 10981 150 [some (.ref (1000 + 13)), some (.ref 0), some (.ref 57), some (.int (nI i))] [] h := by
  exact lw_2 hT hs hL hi a K
theorem lw_c3 (hT : xTab X) {h : wH} {t : List Nat} {G : gG} {EE SS : Nat → List Nat} {xs : Nat → Int32} {L i : Nat} (hs : (xo X)[13]? = some (L, xs)) (hL : L ≤ 2048) (hi : i + 4 ≤ L) (a : LR h t G EE SS) (K : ∀ (h' : wH) (t' : List Nat) (G' : gG) (EE' SS' : Nat → List Nat), LR h' t' G' EE' SS' → WP X (M_LW_law nm) room_1 68 E 68 10981 581 [some (.ref (1000 + 13)), some (.ref 0), some (.ref 57), some (.int (nI i))] [] h') : WP X (M_LW_law nm) room_1 68 E 68 10981 163 [some (.ref (1000 + 13)), some (.ref 0), some (.ref 57), some (.int (nI i))] [] h := by
  exact lw_3 hT hs hL hi a K rfl
theorem lw_c4 (hT : xTab X) {h : wH} {t : List Nat} {G : gG} {EE SS : Nat → List Nat} {xs : Nat → Int32} {L i : Nat} (hs : (xo X)[13]? = some (L, xs)) (hL : L ≤ 2048) (hi : i + 4 ≤ L) (a : LR h t G EE SS) (K : ∀ (h' : wH) (t' : List Nat) (G' : gG) (EE' SS' : Nat → List Nat), LR h' t' G' EE' SS' → WP X (M_LW_law nm) room_1 68 E 68 10981 581 [some (.ref (1000 + 13)), some (.ref 0), some (.ref 57), some (.int (nI i))] [] h') : WP X (M_LW_law nm) room_1 68 E 68 10981 186 [some (.ref (1000 + 13)), some (.ref 0), some (.ref 57), some (.int (nI i))] [] h := by
  rcases rg_c (xs (i + 1)) with ⟨r, hr, e1⟩ | hx1
  · exact lw_4G hT hs hL hi a K hr e1
  · exact lw_4B hT hs hL hi a K hx1 rfl
theorem lw_c5 (hT : xTab X) {h : wH} {t : List Nat} {G : gG} {EE SS : Nat → List Nat} {xs : Nat → Int32} {L i : Nat} (hs : (xo X)[13]? = some (L, xs)) (hL : L ≤ 2048) (hi : i + 4 ≤ L) (a : LR h t G EE SS) (K : ∀ (h' : wH) (t' : List Nat) (G' : gG) (EE' SS' : Nat → List Nat), LR h' t' G' EE' SS' → WP X (M_LW_law nm) room_1 68 E 68 10981 581 [some (.ref (1000 + 13)), some (.ref 0), some (.ref 57), some (.int (nI i))] [] h') : WP X (M_LW_law nm) room_1 68 E 68 10981 209 [some (.ref (1000 + 13)), some (.ref 0), some (.ref 57), some (.int (nI i))] [] h := by
  rcases rg_c (xs (i + 1)) with ⟨r, hr, e1⟩ | hx1
  · exact lw_5G hT hs hL hi a K hr e1
  · exact lw_5B hT hs hL hi a K hx1 rfl
theorem lw_c8 (hT : xTab X) {h : wH} {t : List Nat} {G : gG} {EE SS : Nat → List Nat} {xs : Nat → Int32} {L i : Nat} (hs : (xo X)[13]? = some (L, xs)) (hL : L ≤ 2048) (hi : i + 4 ≤ L) (a : LR h t G EE SS) (K : ∀ (h' : wH) (t' : List Nat) (G' : gG) (EE' SS' : Nat → List Nat), LR h' t' G' EE' SS' → WP X (M_LW_law nm) room_1 68 E 68 10981 581 [some (.ref (1000 + 13)), some (.ref 0), some (.ref 57), some (.int (nI i))] [] h') : WP X (M_LW_law nm) room_1 68 E 68 10981 298 [some (.ref (1000 + 13)), some (.ref 0), some (.ref 57), some (.int (nI i))] [] h := by
  rcases rg_c (xs (i + 1)) with ⟨r, hr, e1⟩ | hx1
  · exact lw_8G hT hs hL hi a K hr e1
  · exact lw_8B hT hs hL hi a K hx1 rfl
theorem lw_c10 (hT : xTab X) {h : wH} {t : List Nat} {G : gG} {EE SS : Nat → List Nat} {xs : Nat → Int32} {L i : Nat} (hs : (xo X)[13]? = some (L, xs)) (hL : L ≤ 2048) (hi : i + 4 ≤ L) (a : LR h t G EE SS) (K : ∀ (h' : wH) (t' : List Nat) (G' : gG) (EE' SS' : Nat → List Nat), LR h' t' G' EE' SS' → WP X (M_LW_law nm) room_1 68 E 68 10981 581 [some (.ref (1000 + 13)), some (.ref 0), some (.ref 57), some (.int (nI i))] [] h') : WP X (M_LW_law nm) room_1 68 E 68 10981 354 [some (.ref (1000 + 13)), some (.ref 0), some (.ref 57), some (.int (nI i))] [] h := by
  rcases rg_c (xs (i + 1)) with ⟨r, hr, e1⟩ | hx1
  · exact lw_10G hT hs hL hi a K hr e1
  · exact lw_10B hT hs hL hi a K hx1 rfl
theorem lw_c12 (hT : xTab X) {h : wH} {t : List Nat} {G : gG} {EE SS : Nat → List Nat} {xs : Nat → Int32} {L i : Nat} (hs : (xo X)[13]? = some (L, xs)) (hL : L ≤ 2048) (hi : i + 4 ≤ L) (a : LR h t G EE SS) (K : ∀ (h' : wH) (t' : List Nat) (G' : gG) (EE' SS' : Nat → List Nat), LR h' t' G' EE' SS' → WP X (M_LW_law nm) room_1 68 E 68 10981 581 [some (.ref (1000 + 13)), some (.ref 0), some (.ref 57), some (.int (nI i))] [] h') : WP X (M_LW_law nm) room_1 68 E 68 10981 410 [some (.ref (1000 + 13)), some (.ref 0), some (.ref 57), some (.int (nI i))] [] h := by
  rcases rg_c (xs (i + 1)) with ⟨r, hr, e1⟩ | hx1
  · exact lw_12G hT hs hL hi a K hr e1
  · exact lw_12B hT hs hL hi a K hx1 rfl
theorem lw_c13 (hT : xTab X) {h : wH} {t : List Nat} {G : gG} {EE SS : Nat → List Nat} {xs : Nat → Int32} {L i : Nat} (hs : (xo X)[13]? = some (L, xs)) (hL : L ≤ 2048) (hi : i + 4 ≤ L) (a : LR h t G EE SS) (K : ∀ (h' : wH) (t' : List Nat) (G' : gG) (EE' SS' : Nat → List Nat), LR h' t' G' EE' SS' → WP X (M_LW_law nm) room_1 68 E 68 10981 581 [some (.ref (1000 + 13)), some (.ref 0), some (.ref 57), some (.int (nI i))] [] h') : WP X (M_LW_law nm) room_1 68 E 68 10981 433 [some (.ref (1000 + 13)), some (.ref 0), some (.ref 57), some (.int (nI i))] [] h := by
  rcases rg_c (xs (i + 1)) with ⟨r, hr, e1⟩ | hx1
  · exact lw_13G hT hs hL hi a K hr e1
  · exact lw_13B hT hs hL hi a K hx1 rfl
theorem lw_c7 (hT : xTab X) {h : wH} {t : List Nat} {G : gG} {EE SS : Nat → List Nat} {xs : Nat → Int32} {L i : Nat} (hs : (xo X)[13]? = some (L, xs)) (hL : L ≤ 2048) (hi : i + 4 ≤ L) (a : LR h t G EE SS) (K : ∀ (h' : wH) (t' : List Nat) (G' : gG) (EE' SS' : Nat → List Nat), LR h' t' G' EE' SS' → WP X (M_LW_law nm) room_1 68 E 68 10981 581 [some (.ref (1000 + 13)), some (.ref 0), some (.ref 57), some (.int (nI i))] [] h') : WP X (M_LW_law nm) room_1 68 E 68 10981 275 [some (.ref (1000 + 13)), some (.ref 0), some (.ref 57), some (.int (nI i))] [] h := by
  rcases rg_c (xs (i + 1)) with ⟨r, hr, e1⟩ | hx1
  · by_cases hne : SS r = []
    · exact lw_7G hT hs hL hi a K hr hne e1
    · exact lw_7S hT hs hL hi a K hr hne e1
  · exact lw_7B hT hs hL hi a K hx1 rfl
theorem lw_c6 (hT : xTab X) {h : wH} {t : List Nat} {G : gG} {EE SS : Nat → List Nat} {xs : Nat → Int32} {L i : Nat} (hs : (xo X)[13]? = some (L, xs)) (hL : L ≤ 2048) (hi : i + 4 ≤ L) (a : LR h t G EE SS) (K : ∀ (h' : wH) (t' : List Nat) (G' : gG) (EE' SS' : Nat → List Nat), LR h' t' G' EE' SS' → WP X (M_LW_law nm) room_1 68 E 68 10981 581 [some (.ref (1000 + 13)), some (.ref 0), some (.ref 57), some (.int (nI i))] [] h') : WP X (M_LW_law nm) room_1 68 E 68 10981 232 [some (.ref (1000 + 13)), some (.ref 0), some (.ref 57), some (.int (nI i))] [] h := by
  rcases rg_c (xs (i + 1)) with ⟨r, hr, e1⟩ | hx1
  · rcases rg_c (xs (i + 2)) with ⟨s, hr2, e2⟩ | hx2
    · rcases le_c (xs (i + 3)) (n := 3) (by decide) with ⟨how, hh, e3⟩ | hx3
      · exact lw_6G hT hs hL hi a K hr hr2 hh e1 e2 e3
      · exact lw_6B3 hT hs hL hi a K hr hr2 hx3 e1 e2 rfl
    · exact lw_6B1 hT hs hL hi a K hr hx2 e1 rfl rfl
  · rcases rg_c (xs (i + 2)) with ⟨s, hr2, e2⟩ | hx2
    · exact lw_6B0 hT hs hL hi a K hx1 hr2 rfl e2 rfl
    · exact lw_6B2 hT hs hL hi a K hx1 hx2 rfl rfl rfl
theorem lw_c9 (hT : xTab X) {h : wH} {t : List Nat} {G : gG} {EE SS : Nat → List Nat} {xs : Nat → Int32} {L i : Nat} (hs : (xo X)[13]? = some (L, xs)) (hL : L ≤ 2048) (hi : i + 4 ≤ L) (a : LR h t G EE SS) (K : ∀ (h' : wH) (t' : List Nat) (G' : gG) (EE' SS' : Nat → List Nat), LR h' t' G' EE' SS' → WP X (M_LW_law nm) room_1 68 E 68 10981 581 [some (.ref (1000 + 13)), some (.ref 0), some (.ref 57), some (.int (nI i))] [] h') : WP X (M_LW_law nm) room_1 68 E 68 10981 321 [some (.ref (1000 + 13)), some (.ref 0), some (.ref 57), some (.int (nI i))] [] h := by
  rcases rg_c (xs (i + 1)) with ⟨r, hr, e1⟩ | hx1
  · rcases cp_c (xs (i + 2)) with ⟨c, hc, e2⟩ | hx2
    · exact lw_9G hT hs hL hi a K hr hc e1 e2
    · exact lw_9C hT hs hL hi a K hr hx2 e1 rfl
  · exact lw_9B hT hs hL hi a K hx1 rfl rfl
theorem lw_c11 (hT : xTab X) {h : wH} {t : List Nat} {G : gG} {EE SS : Nat → List Nat} {xs : Nat → Int32} {L i : Nat} (hs : (xo X)[13]? = some (L, xs)) (hL : L ≤ 2048) (hi : i + 4 ≤ L) (a : LR h t G EE SS) (K : ∀ (h' : wH) (t' : List Nat) (G' : gG) (EE' SS' : Nat → List Nat), LR h' t' G' EE' SS' → WP X (M_LW_law nm) room_1 68 E 68 10981 581 [some (.ref (1000 + 13)), some (.ref 0), some (.ref 57), some (.int (nI i))] [] h') : WP X (M_LW_law nm) room_1 68 E 68 10981 377 [some (.ref (1000 + 13)), some (.ref 0), some (.ref 57), some (.int (nI i))] [] h := by
  rcases rg_c (xs (i + 1)) with ⟨r, hr, e1⟩ | hx1
  · rcases rg_c (xs (i + 2)) with ⟨s, hr2, e2⟩ | hx2
    · exact lw_11G hT hs hL hi a K hr hr2 e1 e2
    · exact lw_11B1 hT hs hL hi a K hr hx2 e1 rfl
  · rcases rg_c (xs (i + 2)) with ⟨s, hr2, e2⟩ | hx2
    · exact lw_11B0 hT hs hL hi a K hx1 hr2 rfl e2
    · exact lw_11B2 hT hs hL hi a K hx1 hx2 rfl rfl
theorem lw_c14 (hT : xTab X) {h : wH} {t : List Nat} {G : gG} {EE SS : Nat → List Nat} {xs : Nat → Int32} {L i : Nat} (hs : (xo X)[13]? = some (L, xs)) (hL : L ≤ 2048) (hi : i + 4 ≤ L) (a : LR h t G EE SS) (K : ∀ (h' : wH) (t' : List Nat) (G' : gG) (EE' SS' : Nat → List Nat), LR h' t' G' EE' SS' → WP X (M_LW_law nm) room_1 68 E 68 10981 581 [some (.ref (1000 + 13)), some (.ref 0), some (.ref 57), some (.int (nI i))] [] h') : WP X (M_LW_law nm) room_1 68 E 68 10981 456 [some (.ref (1000 + 13)), some (.ref 0), some (.ref 57), some (.int (nI i))] [] h := by
  rcases rg_c (xs (i + 1)) with ⟨r, hr, e1⟩ | hx1
  · exact lw_14G hT hs hL hi a K hr e1 rfl
  · exact lw_14B hT hs hL hi a K hx1 rfl rfl
theorem lw_c15 (hT : xTab X) {h : wH} {t : List Nat} {G : gG} {EE SS : Nat → List Nat} {xs : Nat → Int32} {L i : Nat} (hs : (xo X)[13]? = some (L, xs)) (hL : L ≤ 2048) (hi : i + 4 ≤ L) (a : LR h t G EE SS) (K : ∀ (h' : wH) (t' : List Nat) (G' : gG) (EE' SS' : Nat → List Nat), LR h' t' G' EE' SS' → WP X (M_LW_law nm) room_1 68 E 68 10981 581 [some (.ref (1000 + 13)), some (.ref 0), some (.ref 57), some (.int (nI i))] [] h') : WP X (M_LW_law nm) room_1 68 E 68 10981 489 [some (.ref (1000 + 13)), some (.ref 0), some (.ref 57), some (.int (nI i))] [] h := by
  rcases rg_c (xs (i + 1)) with ⟨r, hr, e1⟩ | hx1
  · by_cases hx2 : xs (i + 2) < 0
    · exact lw_15C hT hs hL hi a K hr hx2 e1 rfl
    · obtain ⟨n, hn, e2⟩ := nI_of hx2
      exact lw_15G hT hs hL hi a K hr hn e1 e2
  · exact lw_15B hT hs hL hi a K hx1 rfl rfl
theorem lw_c16 (hT : xTab X) {h : wH} {t : List Nat} {G : gG} {EE SS : Nat → List Nat} {xs : Nat → Int32} {L i : Nat} (hs : (xo X)[13]? = some (L, xs)) (hL : L ≤ 2048) (hi : i + 4 ≤ L) (a : LR h t G EE SS) (K : ∀ (h' : wH) (t' : List Nat) (G' : gG) (EE' SS' : Nat → List Nat), LR h' t' G' EE' SS' → WP X (M_LW_law nm) room_1 68 E 68 10981 581 [some (.ref (1000 + 13)), some (.ref 0), some (.ref 57), some (.int (nI i))] [] h') : WP X (M_LW_law nm) room_1 68 E 68 10981 522 [some (.ref (1000 + 13)), some (.ref 0), some (.ref 57), some (.int (nI i))] [] h := by
  have t60 : t.length ≤ 60 := a.2.1.2.1.choose_spec.2.1
  by_cases h30 : xs (i + 3) = 0
  · rcases rg_c (xs (i + 1)) with ⟨r, hr, e1⟩ | hx1
    · rcases le_c (xs (i + 2)) (n := t.length) (by omega) with ⟨k, hk, e2⟩ | hx2
      · exact lw_16G0 hT hs hL hi a K hr hk h30 e1 e2 rfl
      · exact lw_16C0 hT hs hL hi a K hr hx2 h30 e1 rfl rfl
    · exact lw_16B0 hT hs hL hi a K hx1 h30 rfl rfl rfl
  · rcases rg_c (xs (i + 1)) with ⟨r, hr, e1⟩ | hx1
    · rcases le_c (xs (i + 2)) (n := t.length) (by omega) with ⟨k, hk, e2⟩ | hx2
      · exact lw_16G1 hT hs hL hi a K hr hk h30 e1 e2 rfl
      · exact lw_16C1 hT hs hL hi a K hr hx2 h30 e1 rfl rfl
    · exact lw_16B1 hT hs hL hi a K hx1 h30 rfl rfl rfl
end LW3
