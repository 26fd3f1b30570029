/-! constructors: written by wip/gen/init1.py -/
theorem wP_new {h h1 : wH} {e : wE} {q : Nat} (e1 : h1 = h ++ [e]) (hl : h.length = q) : h1[q]? = some e := by
  subst hl
  rw [e1, List.getElem?_append_right (Nat.le_refl _), Nat.sub_self]
  rfl
theorem wP_len {h h1 : wH} {e : wE} {q : Nat} (e1 : h1 = h ++ [e]) (hl : h.length = q) : h1.length = q + 1 := by
  rw [e1, List.length_append, hl]
  rfl
theorem wP_old {h h1 : wH} {e x : wE} {p : Nat} (e1 : h1 = h ++ [e]) (he : h[p]? = some x) : h1[p]? = some x := by
  rw [e1, List.getElem?_append_left (List.getElem?_eq_some_iff.mp he).1]
  exact he
theorem wP_off {h h1 : wH} {e : wE} {p q : Nat} (e1 : h1 = h ++ [e]) (hl : h.length = q) (hp : p < q) : h1[p]? = h[p]? := by
  rw [e1, List.getElem?_append_left (by omega)]
theorem wS_len {h h1 : wH} {e : wE} {q p : Nat} (e1 : h1 = h.set q e) (hl : h.length = p) : h1.length = p := by
  rw [e1, List.length_set]
  exact hl
theorem wdf_0 : wdf 0 2 = [.null, .int (nI 0)] := rfl
theorem wdf_1 : wdf 1 4 = [.null, .int (nI 0), .null, .int (nI 0)] := rfl
theorem wdf_2 : wdf 2 5 = [.null, .int (nI 0), .int (nI 0), .int (nI 0), .int (nI 0)] := rfl
theorem wdf_3 : wdf 3 7 = [.null, .null, .int (nI 0), .int (nI 0), .null, .null, .null] := rfl
theorem wdf_4 : wdf 4 2 = [.null, .int (nI 0)] := rfl
theorem wdf_5 : wdf 5 6 = [.null, .null, .null, .null, .int (nI 0), .int (nI 0)] := rfl
theorem wdf_6 : wdf 6 6 = [.null, .null, .null, .null, .null, .null] := rfl
theorem wdf_7 : wdf 7 16 = [.null, .int (nI 0), .null, .null, .null, .null, .int (nI 0), .int (nI 0), .int (nI 0), .null, .null, .null, .null, .int (nI 0), .int (nI 0), .null] := rfl
theorem nnf {c : String} {i : Nat} (h : (c, i) ∉ wNF.map (fun q => (q.1, q.2.1))) : ∀ host, (c, i, host) ∉ wNF.map (fun q => (q.1, q.2.1, q.2.2.2.2.2)) := fun host hm => h (by
  obtain ⟨q, hq, e⟩ := List.mem_map.mp hm
  exact List.mem_map.mpr ⟨q, hq, by cases e; rfl⟩)
theorem hCR.keep {h h' : wH} {p : Nat} {t : List Nat} (a : hCR h p t) (b : ∀ j, p ≤ j → j < p + 2 → h'[j]? = h[j]?) : hCR h' p t := by
  obtain ⟨f, h1, h2, h3⟩ := a
  exact ⟨f, (b p (by omega) (by omega)).trans h1, (b (p + 1) (by omega) (by omega)).trans h2, h3⟩
theorem hPV.keep {h h' : wH} {p : Nat} {t : List Nat} (a : hPV h p t) (b : ∀ j, p ≤ j → j < p + 3 → h'[j]? = h[j]?) : hPV h' p t := by
  obtain ⟨⟨fl, h1⟩, h2⟩ := a
  exact ⟨⟨fl, (b p (by omega) (by omega)).trans h1⟩, h2.keep (fun j z1 z2 => b j (by omega) (by omega))⟩
theorem hOB.keep {h h' : wH} {p : Nat} {β : Br} (a : hOB h p (p + 1) β) (b : ∀ j, p ≤ j → j < p + 4 → h'[j]? = h[j]?) : hOB h' p (p + 1) β := ⟨(b p (by omega) (by omega)).trans a.1, a.2.keep (fun j z1 z2 => b j (by omega) (by omega))⟩
/-- the reader as it is made -/
def hP0 (h : wH) : Prop := hPR h [] (fun _ => (([], []), false, 0, false, 0)) 0 0 22 25 22 (fun k => 29 + 4 * k)
theorem hP0.keep {h h' : wH} (a : hP0 h) (b : ∀ j, 13 ≤ j → j < 48 → h'[j]? = h[j]?) : hP0 h' := by
  obtain ⟨a1, ⟨t, l, pos, a2⟩, ⟨f, a3, a3'⟩, a4, ⟨E1, S1, a5⟩, ⟨E2, S2, a6⟩, a7, a8, a9, a10, a11, a12⟩ := a
  refine ⟨(b _ (by omega) (by omega)).trans a1, ⟨t, l, pos, a2.keep (fun j z1 z2 => b j (by omega) (by omega))⟩, ⟨f, (b _ (by omega) (by omega)).trans a3, a3'⟩, fun k hk => ?_, ⟨E1, S1, a5.keep (fun j z1 z2 => b j (by omega) (by omega))⟩, ⟨E2, S2, a6.keep (fun j z1 z2 => b j (by omega) (by omega))⟩, a7, a8, a9, a10, a11, a12⟩
  have a9 : hOB h (28 + 4 * k) (29 + 4 * k) (([], []), false, 0, false, 0) := a4 k hk
  exact ⟨(b _ (by omega) (by omega)).trans a9.1, a9.2.keep (fun j z1 z2 => b j (by omega) (by omega))⟩
section IN1
variable {X : wX}
set_option maxHeartbeats 4000000 in
set_option maxRecDepth 100000 in
theorem m_CR_init {h : wH} {q : Nat} (hl : h.length = q + 1) (hc : h[q]? = some (.inr (0, [.null, .int (nI 0)]))) : PM X M_CR_init 1 1 60 [.ref q] h (fun z h' => z = none ∧ h'.length = q + 2 ∧ hCR h' q [] ∧ ∀ j, j < q → h'[j]? = h[j]?) := by
  refine PM.at (pl := [some (.ref q)]) rfl rfl (by simp [wle, wen]) ?_
  generalize hEN : wEm X 1 60 _ = EN
  have fr0 : ∀ j, j < q → h[j]? = h[j]? := fun _ _ => rfl
  refine w_aload_n d_CR_init_0 rfl rfl ?_
  refine w_objInit d_CR_init_1 o_CR_3 oInit1 oInit2 (by decide) (by decide) (Nat.le_of_ble_eq_true rfl) ?_
  refine w_aload_n d_CR_init_4 rfl rfl ?_
  refine w_bipush (v := nI 60) d_CR_init_5 (by decide) ?_
  refine w_newI (N := 60) d_CR_init_7 wArrI (by decide) (by decide) (by decide) (by decide) (by decide) ?_
  refine w_nm (fun h1 e1 => ?_)
  refine w_eq (nc' := 1) (u' := 60) (st' := [.ref (q + 1), .ref q]) (by rw [hl]) ?_
  have hc_1 := wP_old e1 hc
  have c1 := wP_new e1 hl
  have fr1 : ∀ j, j < q → h1[j]? = h[j]? := fun j z1 => (wP_off e1 hl (by omega)).trans (fr0 j z1)
  have hl1 : h1.length = (q + 2) := by have z9 := wP_len e1 hl; omega
  refine w_putF d_CR_init_9 f_CR_9 (by decide +kernel) rfl (nnf (by decide +kernel)) hc_1 rfl rfl rfl ?_
  refine w_nm (fun h2 e2 => ?_)
  have hc_2 := wS_eq e2 hc_1
  have c1_2 := wS_ne e2 (by omega) c1
  have hl2 := wS_len e2 hl1
  have fr2 : ∀ j, j < q → h2[j]? = h[j]? := fun j z1 => (wS_off e2 (by omega)).trans (fr1 j z1)
  rw [← hEN]
  refine w_vret d_CR_init_12 rfl ?_
  exact ⟨rfl, hl2, ⟨_, hc_2, c1_2, Nat.zero_le _, fun i x z => by cases z⟩, fr2⟩
set_option maxHeartbeats 4000000 in
set_option maxRecDepth 100000 in
theorem m_MS_init {h : wH} {q : Nat} (hl : h.length = q + 1) (hc : h[q]? = some (.inr (1, [.null, .int (nI 0), .null, .int (nI 0)]))) : PM X M_MS_init 1 2 416 [.ref q] h (fun z h' => z = none ∧ h'.length = q + 3 ∧ hMS h' q [] [] ∧ ∀ j, j < q → h'[j]? = h[j]?) := by
  refine PM.at (pl := [some (.ref q)]) rfl rfl (by simp [wle, wen]) ?_
  generalize hEN : wEm X 2 416 _ = EN
  have fr0 : ∀ j, j < q → h[j]? = h[j]? := fun _ _ => rfl
  refine w_aload_n d_MS_init_0 rfl rfl ?_
  refine w_objInit d_MS_init_1 o_MS_5 oInit1 oInit2 (by decide) (by decide) (Nat.le_of_ble_eq_true rfl) ?_
  refine w_aload_n d_MS_init_4 rfl rfl ?_
  refine w_sipush (v := nI 400) d_MS_init_5 (by decide) ?_
  refine w_newI (N := 400) d_MS_init_8 wArrI (by decide) (by decide) (by decide) (by decide) (by decide) ?_
  refine w_nm (fun h1 e1 => ?_)
  refine w_eq (nc' := 1) (u' := 400) (st' := [.ref (q + 1), .ref q]) (by rw [hl]) ?_
  have hc_1 := wP_old e1 hc
  have c1 := wP_new e1 hl
  have fr1 : ∀ j, j < q → h1[j]? = h[j]? := fun j z1 => (wP_off e1 hl (by omega)).trans (fr0 j z1)
  have hl1 : h1.length = (q + 2) := by have z9 := wP_len e1 hl; omega
  refine w_putF d_MS_init_10 f_MS_11 (by decide +kernel) rfl (nnf (by decide +kernel)) hc_1 rfl rfl rfl ?_
  refine w_nm (fun h2 e2 => ?_)
  have hc_2 := wS_eq e2 hc_1
  have c1_2 := wS_ne e2 (by omega) c1
  have hl2 := wS_len e2 hl1
  have fr2 : ∀ j, j < q → h2[j]? = h[j]? := fun j z1 => (wS_off e2 (by omega)).trans (fr1 j z1)
  refine w_aload_n d_MS_init_13 rfl rfl ?_
  refine w_bipush (v := nI 16) d_MS_init_14 (by decide) ?_
  refine w_newJ (N := 16) d_MS_init_16 wArrJ (by decide) (by decide) (by decide) (by decide) (by decide) ?_
  refine w_nm (fun h3 e3 => ?_)
  refine w_eq (nc' := 2) (u' := 416) (st' := [.ref (q + 2), .ref q]) (by rw [hl2]) ?_
  have hc_3 := wP_old e3 hc_2
  have c1_3 := wP_old e3 c1_2
  have c3 := wP_new e3 hl2
  have fr3 : ∀ j, j < q → h3[j]? = h[j]? := fun j z1 => (wP_off e3 hl2 (by omega)).trans (fr2 j z1)
  have hl3 : h3.length = (q + 3) := by have z9 := wP_len e3 hl2; omega
  refine w_putF d_MS_init_18 f_MS_15 (by decide +kernel) rfl (nnf (by decide +kernel)) hc_3 rfl rfl rfl ?_
  refine w_nm (fun h4 e4 => ?_)
  have hc_4 := wS_eq e4 hc_3
  have c1_4 := wS_ne e4 (by omega) c1_3
  have c3_4 := wS_ne e4 (by omega) c3
  have hl4 := wS_len e4 hl3
  have fr4 : ∀ j, j < q → h4[j]? = h[j]? := fun j z1 => (wS_off e4 (by omega)).trans (fr3 j z1)
  rw [← hEN]
  refine w_vret d_MS_init_21 rfl ?_
  exact ⟨rfl, hl4, ⟨_, _, hc_4, c1_4, c3_4, Nat.zero_le _, Nat.zero_le _, (fun i x z => by cases z), fun i x z => by cases z⟩, fr4⟩
set_option maxHeartbeats 4000000 in
set_option maxRecDepth 100000 in
theorem m_PW_init {h : wH} {q : Nat} (hl : h.length = q + 1) (hc : h[q]? = some (.inr (4, [.null, .int (nI 0)]))) : PM X M_PW_init 2 2 62 [.ref q] h (fun z h' => z = none ∧ h'.length = q + 3 ∧ hPV h' q [] ∧ ∀ j, j < q → h'[j]? = h[j]?) := by
  refine PM.at (pl := [some (.ref q)]) rfl rfl (by simp [wle, wen]) ?_
  generalize hEN : wEm X 2 62 _ = EN
  have fr0 : ∀ j, j < q → h[j]? = h[j]? := fun _ _ => rfl
  refine w_aload_n d_PW_init_0 rfl rfl ?_
  refine w_objInit d_PW_init_1 o_PW_3 oInit1 oInit2 (by decide) (by decide) (Nat.le_of_ble_eq_true rfl) ?_
  refine w_aload_n d_PW_init_4 rfl rfl ?_
  refine w_new (n := 2) d_PW_init_5 n_PW_9 (fun r hr => by cases hr; rfl) (by decide) (by decide) ?_
  refine w_nm (fun h1 e1 => ?_)
  refine w_eq (nc' := 1) (u' := 2) (st' := [.ref (q + 1), .ref q]) (by rw [hl]) ?_
  have hc_1 := wP_old e1 hc
  have c1 := wP_new e1 hl
  rw [wdf_0] at c1
  have fr1 : ∀ j, j < q → h1[j]? = h[j]? := fun j z1 => (wP_off e1 hl (by omega)).trans (fr0 j z1)
  have hl1 : h1.length = (q + 2) := by have z9 := wP_len e1 hl; omega
  refine w_dup d_PW_init_8 rfl ?_
  refine w_callI (q := (q + 1)) (as := []) (st := [.ref (q + 1), .ref q]) d_PW_init_9 yM_CR_init rfl rfl l_PW_11 iM_CR_init rfl rfl (m_CR_init hl1 c1) (by decide) (by decide) (by decide) (by decide) (Nat.le_of_ble_eq_true rfl) ?_
  rintro _ h2 ⟨rfl, hm2, pCR2, g2⟩
  have hl2 : h2.length = (q + 3) := by omega
  refine w_eq (nc' := 2) (u' := 62) (st' := [.ref (q + 1), .ref q]) rfl ?_
  have hc_2 := (g2 q (by omega)).trans hc_1
  have fr2 : ∀ j, j < q → h2[j]? = h[j]? := fun j z1 => (g2 j (by omega)).trans (fr1 j z1)
  refine w_putF d_PW_init_12 f_PW_12 (by decide +kernel) rfl (nnf (by decide +kernel)) hc_2 rfl rfl rfl ?_
  refine w_nm (fun h3 e3 => ?_)
  have hc_3 := wS_eq e3 hc_2
  have hl3 := wS_len e3 hl2
  have pCR2_3 := pCR2.keep (fun j z1 z2 => wS_off e3 (by omega))
  have fr3 : ∀ j, j < q → h3[j]? = h[j]? := fun j z1 => (wS_off e3 (by omega)).trans (fr2 j z1)
  rw [← hEN]
  refine w_vret d_PW_init_15 rfl ?_
  exact ⟨rfl, hl3, ⟨⟨_, hc_3⟩, pCR2_3⟩, fr3⟩
set_option maxHeartbeats 4000000 in
set_option maxRecDepth 100000 in
theorem m_OB_init {h : wH} {q : Nat} (hl : h.length = q + 1) (hc : h[q]? = some (.inr (2, [.null, .int (nI 0), .int (nI 0), .int (nI 0), .int (nI 0)]))) : PM X M_OB_init 2 3 420 [.ref q] h (fun z h' => z = none ∧ h'.length = q + 4 ∧ hOB h' q (q + 1) (([], []), false, 0, false, 0) ∧ ∀ j, j < q → h'[j]? = h[j]?) := by
  refine PM.at (pl := [some (.ref q)]) rfl rfl (by simp [wle, wen]) ?_
  generalize hEN : wEm X 3 420 _ = EN
  have fr0 : ∀ j, j < q → h[j]? = h[j]? := fun _ _ => rfl
  refine w_aload_n d_OB_init_0 rfl rfl ?_
  refine w_objInit d_OB_init_1 o_OB_3 oInit1 oInit2 (by decide) (by decide) (Nat.le_of_ble_eq_true rfl) ?_
  refine w_aload_n d_OB_init_4 rfl rfl ?_
  refine w_new (n := 4) d_OB_init_5 n_OB_9 (fun r hr => by cases hr; rfl) (by decide) (by decide) ?_
  refine w_nm (fun h1 e1 => ?_)
  refine w_eq (nc' := 1) (u' := 4) (st' := [.ref (q + 1), .ref q]) (by rw [hl]) ?_
  have hc_1 := wP_old e1 hc
  have c1 := wP_new e1 hl
  rw [wdf_1] at c1
  have fr1 : ∀ j, j < q → h1[j]? = h[j]? := fun j z1 => (wP_off e1 hl (by omega)).trans (fr0 j z1)
  have hl1 : h1.length = (q + 2) := by have z9 := wP_len e1 hl; omega
  refine w_dup d_OB_init_8 rfl ?_
  refine w_callI (q := (q + 1)) (as := []) (st := [.ref (q + 1), .ref q]) d_OB_init_9 yM_MS_init rfl rfl l_OB_11 iM_MS_init rfl rfl (m_MS_init hl1 c1) (by decide) (by decide) (by decide) (by decide) (Nat.le_of_ble_eq_true rfl) ?_
  rintro _ h2 ⟨rfl, hm2, pMS2, g2⟩
  have hl2 : h2.length = (q + 4) := by omega
  refine w_eq (nc' := 3) (u' := 420) (st' := [.ref (q + 1), .ref q]) rfl ?_
  have hc_2 := (g2 q (by omega)).trans hc_1
  have fr2 : ∀ j, j < q → h2[j]? = h[j]? := fun j z1 => (g2 j (by omega)).trans (fr1 j z1)
  refine w_put d_OB_init_12 f_OB_12 rfl hc_2 rfl rfl rfl ?_
  refine w_nm (fun h3 e3 => ?_)
  have hc_3 := wS_eq e3 hc_2
  have hl3 := wS_len e3 hl2
  have pMS2_3 := pMS2.keep (fun j z1 z2 => wS_off e3 (by omega))
  have fr3 : ∀ j, j < q → h3[j]? = h[j]? := fun j z1 => (wS_off e3 (by omega)).trans (fr2 j z1)
  rw [← hEN]
  refine w_vret d_OB_init_15 rfl ?_
  exact ⟨rfl, hl3, ⟨hc_3, pMS2_3⟩, fr3⟩
set_option maxHeartbeats 4000000 in
set_option maxRecDepth 100000 in
theorem m_TR_init {h : wH} {q : Nat} (hl : h.length = q + 1) (hc : h[q]? = some (.inr (5, [.null, .null, .null, .null, .int (nI 0), .int (nI 0)]))) : PM X M_TR_init 2 6 244 [.ref q] h (fun z h' => z = none ∧ h'.length = q + 7 ∧ hTR h' q [] [] [] 0 ∧ ∀ j, j < q → h'[j]? = h[j]?) := by
  refine PM.at (pl := [some (.ref q)]) rfl rfl (by simp [wle, wen]) ?_
  generalize hEN : wEm X 6 244 _ = EN
  have fr0 : ∀ j, j < q → h[j]? = h[j]? := fun _ _ => rfl
  refine w_aload_n d_TR_init_0 rfl rfl ?_
  refine w_objInit d_TR_init_1 o_TR_3 oInit1 oInit2 (by decide) (by decide) (Nat.le_of_ble_eq_true rfl) ?_
  refine w_aload_n d_TR_init_4 rfl rfl ?_
  refine w_new (n := 2) d_TR_init_5 n_TR_9 (fun r hr => by cases hr; rfl) (by decide) (by decide) ?_
  refine w_nm (fun h1 e1 => ?_)
  refine w_eq (nc' := 1) (u' := 2) (st' := [.ref (q + 1), .ref q]) (by rw [hl]) ?_
  have hc_1 := wP_old e1 hc
  have c1 := wP_new e1 hl
  rw [wdf_0] at c1
  have fr1 : ∀ j, j < q → h1[j]? = h[j]? := fun j z1 => (wP_off e1 hl (by omega)).trans (fr0 j z1)
  have hl1 : h1.length = (q + 2) := by have z9 := wP_len e1 hl; omega
  refine w_dup d_TR_init_8 rfl ?_
  refine w_callI (q := (q + 1)) (as := []) (st := [.ref (q + 1), .ref q]) d_TR_init_9 yM_CR_init rfl rfl l_TR_11 iM_CR_init rfl rfl (m_CR_init hl1 c1) (by decide) (by decide) (by decide) (by decide) (Nat.le_of_ble_eq_true rfl) ?_
  rintro _ h2 ⟨rfl, hm2, pCR2, g2⟩
  have hl2 : h2.length = (q + 3) := by omega
  refine w_eq (nc' := 2) (u' := 62) (st' := [.ref (q + 1), .ref q]) rfl ?_
  have hc_2 := (g2 q (by omega)).trans hc_1
  have fr2 : ∀ j, j < q → h2[j]? = h[j]? := fun j z1 => (g2 j (by omega)).trans (fr1 j z1)
  refine w_putF d_TR_init_12 f_TR_12 (by decide +kernel) rfl (nnf (by decide +kernel)) hc_2 rfl rfl rfl ?_
  refine w_nm (fun h3 e3 => ?_)
  have hc_3 := wS_eq e3 hc_2
  have hl3 := wS_len e3 hl2
  have pCR2_3 := pCR2.keep (fun j z1 z2 => wS_off e3 (by omega))
  have fr3 : ∀ j, j < q → h3[j]? = h[j]? := fun j z1 => (wS_off e3 (by omega)).trans (fr2 j z1)
  refine w_aload_n d_TR_init_15 rfl rfl ?_
  refine w_bipush (v := nI 60) d_TR_init_16 (by decide) ?_
  refine w_newI (N := 60) d_TR_init_18 wArrI (by decide) (by decide) (by decide) (by decide) (by decide) ?_
  refine w_nm (fun h4 e4 => ?_)
  refine w_eq (nc' := 3) (u' := 122) (st' := [.ref (q + 3), .ref q]) (by rw [hl3]) ?_
  have hc_4 := wP_old e4 hc_3
  have c4 := wP_new e4 hl3
  have pCR2_4 := pCR2_3.keep (fun j z1 z2 => wP_off e4 hl3 (by omega))
  have fr4 : ∀ j, j < q → h4[j]? = h[j]? := fun j z1 => (wP_off e4 hl3 (by omega)).trans (fr3 j z1)
  have hl4 : h4.length = (q + 4) := by have z9 := wP_len e4 hl3; omega
  refine w_putF d_TR_init_20 f_TR_18 (by decide +kernel) rfl (nnf (by decide +kernel)) hc_4 rfl rfl rfl ?_
  refine w_nm (fun h5 e5 => ?_)
  have hc_5 := wS_eq e5 hc_4
  have c4_5 := wS_ne e5 (by omega) c4
  have hl5 := wS_len e5 hl4
  have pCR2_5 := pCR2_4.keep (fun j z1 z2 => wS_off e5 (by omega))
  have fr5 : ∀ j, j < q → h5[j]? = h[j]? := fun j z1 => (wS_off e5 (by omega)).trans (fr4 j z1)
  refine w_aload_n d_TR_init_23 rfl rfl ?_
  refine w_bipush (v := nI 60) d_TR_init_24 (by decide) ?_
  refine w_newI (N := 60) d_TR_init_26 wArrI (by decide) (by decide) (by decide) (by decide) (by decide) ?_
  refine w_nm (fun h6 e6 => ?_)
  refine w_eq (nc' := 4) (u' := 182) (st' := [.ref (q + 4), .ref q]) (by rw [hl5]) ?_
  have hc_6 := wP_old e6 hc_5
  have c4_6 := wP_old e6 c4_5
  have c6 := wP_new e6 hl5
  have pCR2_6 := pCR2_5.keep (fun j z1 z2 => wP_off e6 hl5 (by omega))
  have fr6 : ∀ j, j < q → h6[j]? = h[j]? := fun j z1 => (wP_off e6 hl5 (by omega)).trans (fr5 j z1)
  have hl6 : h6.length = (q + 5) := by have z9 := wP_len e6 hl5; omega
  refine w_putF d_TR_init_28 f_TR_22 (by decide +kernel) rfl (nnf (by decide +kernel)) hc_6 rfl rfl rfl ?_
  refine w_nm (fun h7 e7 => ?_)
  have hc_7 := wS_eq e7 hc_6
  have c4_7 := wS_ne e7 (by omega) c4_6
  have c6_7 := wS_ne e7 (by omega) c6
  have hl7 := wS_len e7 hl6
  have pCR2_7 := pCR2_6.keep (fun j z1 z2 => wS_off e7 (by omega))
  have fr7 : ∀ j, j < q → h7[j]? = h[j]? := fun j z1 => (wS_off e7 (by omega)).trans (fr6 j z1)
  refine w_aload_n d_TR_init_31 rfl rfl ?_
  refine w_new (n := 2) d_TR_init_32 n_TR_9 (fun r hr => by cases hr; rfl) (by decide) (by decide) ?_
  refine w_nm (fun h8 e8 => ?_)
  refine w_eq (nc' := 5) (u' := 184) (st' := [.ref (q + 5), .ref q]) (by rw [hl7]) ?_
  have hc_8 := wP_old e8 hc_7
  have c4_8 := wP_old e8 c4_7
  have c6_8 := wP_old e8 c6_7
  have c8 := wP_new e8 hl7
  rw [wdf_0] at c8
  have pCR2_8 := pCR2_7.keep (fun j z1 z2 => wP_off e8 hl7 (by omega))
  have fr8 : ∀ j, j < q → h8[j]? = h[j]? := fun j z1 => (wP_off e8 hl7 (by omega)).trans (fr7 j z1)
  have hl8 : h8.length = (q + 6) := by have z9 := wP_len e8 hl7; omega
  refine w_dup d_TR_init_35 rfl ?_
  refine w_callI (q := (q + 5)) (as := []) (st := [.ref (q + 5), .ref q]) d_TR_init_36 yM_CR_init rfl rfl l_TR_11 iM_CR_init rfl rfl (m_CR_init hl8 c8) (by decide) (by decide) (by decide) (by decide) (Nat.le_of_ble_eq_true rfl) ?_
  rintro _ h9 ⟨rfl, hm9, pCR9, g9⟩
  have hl9 : h9.length = (q + 7) := by omega
  refine w_eq (nc' := 6) (u' := 244) (st' := [.ref (q + 5), .ref q]) rfl ?_
  have hc_9 := (g9 q (by omega)).trans hc_8
  have c4_9 := (g9 (q + 3) (by omega)).trans c4_8
  have c6_9 := (g9 (q + 4) (by omega)).trans c6_8
  have pCR2_9 := pCR2_8.keep (fun j z1 z2 => g9 j (by omega))
  have fr9 : ∀ j, j < q → h9[j]? = h[j]? := fun j z1 => (g9 j (by omega)).trans (fr8 j z1)
  refine w_putF d_TR_init_39 f_TR_25 (by decide +kernel) rfl (nnf (by decide +kernel)) hc_9 rfl rfl rfl ?_
  refine w_nm (fun h10 e10 => ?_)
  have hc_10 := wS_eq e10 hc_9
  have c4_10 := wS_ne e10 (by omega) c4_9
  have c6_10 := wS_ne e10 (by omega) c6_9
  have hl10 := wS_len e10 hl9
  have pCR2_10 := pCR2_9.keep (fun j z1 z2 => wS_off e10 (by omega))
  have pCR9_10 := pCR9.keep (fun j z1 z2 => wS_off e10 (by omega))
  have fr10 : ∀ j, j < q → h10[j]? = h[j]? := fun j z1 => (wS_off e10 (by omega)).trans (fr9 j z1)
  rw [← hEN]
  refine w_vret d_TR_init_42 rfl ?_
  exact ⟨rfl, hl10, ⟨_, _, hc_10, pCR2_10, c4_10, c6_10, pCR9_10, Nat.zero_le _, fun i x z => by cases z⟩, fr10⟩
set_option maxHeartbeats 4000000 in
set_option maxRecDepth 100000 in
theorem m_PR_init {h : wH} (hl : h.length = 14) (hc : h[13]? = some (.inr (3, [.null, .null, .int (nI 0), .int (nI 0), .null, .null, .null]))) : PM X M_PR_init 3 34 3220 [.ref 13] h (fun z h' => z = none ∧ h'.length = 48 ∧ hP0 h' ∧ ∀ j, j < 13 → h'[j]? = h[j]?) := by
  refine PM.at (pl := [some (.ref 13), none]) rfl rfl (by simp [wle, wen]) ?_
  generalize hEN : wEm X 34 3220 _ = EN
  have fr0 : ∀ j, j < 13 → h[j]? = h[j]? := fun _ _ => rfl
  refine w_aload_n d_PR_init_0 rfl rfl ?_
  refine w_objInit d_PR_init_1 o_PR_3 oInit1 oInit2 (by decide) (by decide) (Nat.le_of_ble_eq_true rfl) ?_
  refine w_aload_n d_PR_init_4 rfl rfl ?_
  refine w_new (n := 6) d_PR_init_5 n_PR_9 (fun r hr => by cases hr; rfl) (by decide) (by decide) ?_
  refine w_nm (fun h1 e1 => ?_)
  refine w_eq (nc' := 1) (u' := 6) (st' := [.ref 14, .ref 13]) (by rw [hl]) ?_
  have hc_1 := wP_old e1 hc
  have c1 := wP_new e1 hl
  rw [wdf_5] at c1
  have fr1 : ∀ j, j < 13 → h1[j]? = h[j]? := fun j z1 => (wP_off e1 hl (by omega)).trans (fr0 j z1)
  have hl1 : h1.length = 15 := by have z9 := wP_len e1 hl; omega
  refine w_dup d_PR_init_8 rfl ?_
  refine w_callI (q := 14) (as := []) (st := [.ref 14, .ref 13]) d_PR_init_9 yM_TR_init rfl rfl l_PR_11 iM_TR_init rfl rfl (m_TR_init hl1 c1) (by decide) (by decide) (by decide) (by decide) (Nat.le_of_ble_eq_true rfl) ?_
  rintro _ h2 ⟨rfl, hm2, pTR2, g2⟩
  have hl2 : h2.length = 21 := by omega
  refine w_eq (nc' := 7) (u' := 250) (st' := [.ref 14, .ref 13]) rfl ?_
  have hc_2 := (g2 13 (by omega)).trans hc_1
  have fr2 : ∀ j, j < 13 → h2[j]? = h[j]? := fun j z1 => (g2 j (by omega)).trans (fr1 j z1)
  refine w_putF d_PR_init_12 f_PR_12 (by decide +kernel) rfl (nnf (by decide +kernel)) hc_2 rfl rfl rfl ?_
  refine w_nm (fun h3 e3 => ?_)
  have hc_3 := wS_eq e3 hc_2
  have hl3 := wS_len e3 hl2
  have pTR2_3 := pTR2.keep (fun j z1 z2 => wS_off e3 (by omega))
  have fr3 : ∀ j, j < 13 → h3[j]? = h[j]? := fun j z1 => (wS_off e3 (by omega)).trans (fr2 j z1)
  refine w_aload_n d_PR_init_15 rfl rfl ?_
  refine w_iconst (v := nI 5) d_PR_init_16 (by decide) ?_
  refine w_newQ (N := 5) (t := 4) (C := "CodePointSets$OpenBracket") d_PR_init_17 c_PR_18 (by decide) rfl (by decide) (by decide) (by decide) (by decide) (by decide) ?_
  refine w_nm (fun h4 e4 => ?_)
  refine w_eq (nc' := 8) (u' := 255) (st' := [.ref 21, .ref 13]) (by rw [hl3]) ?_
  have hc_4 := wP_old e4 hc_3
  have c4 := wP_new e4 hl3
  have pTR2_4 := pTR2_3.keep (fun j z1 z2 => wP_off e4 hl3 (by omega))
  have fr4 : ∀ j, j < 13 → h4[j]? = h[j]? := fun j z1 => (wP_off e4 hl3 (by omega)).trans (fr3 j z1)
  have hl4 : h4.length = 22 := by have z9 := wP_len e4 hl3; omega
  refine w_putF d_PR_init_20 f_PR_20 (by decide +kernel) rfl (nnf (by decide +kernel)) hc_4 rfl rfl rfl ?_
  refine w_nm (fun h5 e5 => ?_)
  have hc_5 := wS_eq e5 hc_4
  have c4_5 := wS_ne e5 (by omega) c4
  have hl5 := wS_len e5 hl4
  have pTR2_5 := pTR2_4.keep (fun j z1 z2 => wS_off e5 (by omega))
  have fr5 : ∀ j, j < 13 → h5[j]? = h[j]? := fun j z1 => (wS_off e5 (by omega)).trans (fr4 j z1)
  refine w_aload_n d_PR_init_23 rfl rfl ?_
  refine w_new (n := 4) d_PR_init_24 n_PR_24 (fun r hr => by cases hr; rfl) (by decide) (by decide) ?_
  refine w_nm (fun h6 e6 => ?_)
  refine w_eq (nc' := 9) (u' := 259) (st' := [.ref 22, .ref 13]) (by rw [hl5]) ?_
  have hc_6 := wP_old e6 hc_5
  have c4_6 := wP_old e6 c4_5
  have c6 := wP_new e6 hl5
  rw [wdf_1] at c6
  have pTR2_6 := pTR2_5.keep (fun j z1 z2 => wP_off e6 hl5 (by omega))
  have fr6 : ∀ j, j < 13 → h6[j]? = h[j]? := fun j z1 => (wP_off e6 hl5 (by omega)).trans (fr5 j z1)
  have hl6 : h6.length = 23 := by have z9 := wP_len e6 hl5; omega
  refine w_dup d_PR_init_27 rfl ?_
  refine w_callI (q := 22) (as := []) (st := [.ref 22, .ref 13]) d_PR_init_28 yM_MS_init rfl rfl l_PR_26 iM_MS_init rfl rfl (m_MS_init hl6 c6) (by decide) (by decide) (by decide) (by decide) (Nat.le_of_ble_eq_true rfl) ?_
  rintro _ h7 ⟨rfl, hm7, pMS7, g7⟩
  have hl7 : h7.length = 25 := by omega
  refine w_eq (nc' := 11) (u' := 675) (st' := [.ref 22, .ref 13]) rfl ?_
  have hc_7 := (g7 13 (by omega)).trans hc_6
  have c4_7 := (g7 21 (by omega)).trans c4_6
  have pTR2_7 := pTR2_6.keep (fun j z1 z2 => g7 j (by omega))
  have fr7 : ∀ j, j < 13 → h7[j]? = h[j]? := fun j z1 => (g7 j (by omega)).trans (fr6 j z1)
  refine w_put d_PR_init_31 f_PR_27 rfl hc_7 rfl rfl rfl ?_
  refine w_nm (fun h8 e8 => ?_)
  have hc_8 := wS_eq e8 hc_7
  have c4_8 := wS_ne e8 (by omega) c4_7
  have hl8 := wS_len e8 hl7
  have pTR2_8 := pTR2_7.keep (fun j z1 z2 => wS_off e8 (by omega))
  have pMS7_8 := pMS7.keep (fun j z1 z2 => wS_off e8 (by omega))
  have fr8 : ∀ j, j < 13 → h8[j]? = h[j]? := fun j z1 => (wS_off e8 (by omega)).trans (fr7 j z1)
  refine w_aload_n d_PR_init_34 rfl rfl ?_
  refine w_new (n := 4) d_PR_init_35 n_PR_24 (fun r hr => by cases hr; rfl) (by decide) (by decide) ?_
  refine w_nm (fun h9 e9 => ?_)
  refine w_eq (nc' := 12) (u' := 679) (st' := [.ref 25, .ref 13]) (by rw [hl8]) ?_
  have hc_9 := wP_old e9 hc_8
  have c4_9 := wP_old e9 c4_8
  have c9 := wP_new e9 hl8
  rw [wdf_1] at c9
  have pTR2_9 := pTR2_8.keep (fun j z1 z2 => wP_off e9 hl8 (by omega))
  have pMS7_9 := pMS7_8.keep (fun j z1 z2 => wP_off e9 hl8 (by omega))
  have fr9 : ∀ j, j < 13 → h9[j]? = h[j]? := fun j z1 => (wP_off e9 hl8 (by omega)).trans (fr8 j z1)
  have hl9 : h9.length = 26 := by have z9 := wP_len e9 hl8; omega
  refine w_dup d_PR_init_38 rfl ?_
  refine w_callI (q := 25) (as := []) (st := [.ref 25, .ref 13]) d_PR_init_39 yM_MS_init rfl rfl l_PR_26 iM_MS_init rfl rfl (m_MS_init hl9 c9) (by decide) (by decide) (by decide) (by decide) (Nat.le_of_ble_eq_true rfl) ?_
  rintro _ h10 ⟨rfl, hm10, pMS10, g10⟩
  have hl10 : h10.length = 28 := by omega
  refine w_eq (nc' := 14) (u' := 1095) (st' := [.ref 25, .ref 13]) rfl ?_
  have hc_10 := (g10 13 (by omega)).trans hc_9
  have c4_10 := (g10 21 (by omega)).trans c4_9
  have pTR2_10 := pTR2_9.keep (fun j z1 z2 => g10 j (by omega))
  have pMS7_10 := pMS7_9.keep (fun j z1 z2 => g10 j (by omega))
  have fr10 : ∀ j, j < 13 → h10[j]? = h[j]? := fun j z1 => (g10 j (by omega)).trans (fr9 j z1)
  refine w_put d_PR_init_42 f_PR_31 rfl hc_10 rfl rfl rfl ?_
  refine w_nm (fun h11 e11 => ?_)
  have hc_11 := wS_eq e11 hc_10
  have c4_11 := wS_ne e11 (by omega) c4_10
  have hl11 := wS_len e11 hl10
  have pTR2_11 := pTR2_10.keep (fun j z1 z2 => wS_off e11 (by omega))
  have pMS7_11 := pMS7_10.keep (fun j z1 z2 => wS_off e11 (by omega))
  have pMS10_11 := pMS10.keep (fun j z1 z2 => wS_off e11 (by omega))
  have fr11 : ∀ j, j < 13 → h11[j]? = h[j]? := fun j z1 => (wS_off e11 (by omega)).trans (fr10 j z1)
  refine w_aload_n d_PR_init_45 rfl rfl ?_
  refine w_aload_n d_PR_init_46 rfl rfl ?_
  refine w_get d_PR_init_47 f_PR_27 hc_11 rfl ?_
  refine w_put d_PR_init_50 f_PR_34 rfl hc_11 rfl rfl rfl ?_
  refine w_nm (fun h12 e12 => ?_)
  have hc_12 := wS_eq e12 hc_11
  have c4_12 := wS_ne e12 (by omega) c4_11
  have hl12 := wS_len e12 hl11
  have pTR2_12 := pTR2_11.keep (fun j z1 z2 => wS_off e12 (by omega))
  have pMS7_12 := pMS7_11.keep (fun j z1 z2 => wS_off e12 (by omega))
  have pMS10_12 := pMS10_11.keep (fun j z1 z2 => wS_off e12 (by omega))
  have fr12 : ∀ j, j < 13 → h12[j]? = h[j]? := fun j z1 => (wS_off e12 (by omega)).trans (fr11 j z1)
  refine w_iconst (v := nI 0) d_PR_init_53 (by decide) ?_
  refine w_istore_n d_PR_init_54 (by decide) ?_
  refine w_pl (pl' := [some (.ref 13), some (.int (nI 0))]) rfl ?_
  refine w_iload_n d_PR_init_55 rfl ?_
  refine w_iconst (v := nI 5) d_PR_init_56 (by decide) ?_
  refine w_icmp_ge (tgt := 79) d_PR_init_57 rfl (fun z => absurd z (by decide)) (fun _ => ?_)
  refine w_aload_n d_PR_init_60 rfl rfl ?_
  refine w_get d_PR_init_61 f_PR_20 hc_12 rfl ?_
  refine w_iload_n d_PR_init_64 rfl ?_
  refine w_new (n := 5) d_PR_init_65 n_PR_18 (fun r hr => by cases hr; rfl) (by decide) (by decide) ?_
  refine w_nm (fun h13 e13 => ?_)
  refine w_eq (nc' := 15) (u' := 1100) (st' := [.ref 28, .int (nI 0), .ref 21]) (by rw [hl12]) ?_
  have hc_13 := wP_old e13 hc_12
  have c4_13 := wP_old e13 c4_12
  have c13 := wP_new e13 hl12
  rw [wdf_2] at c13
  have pTR2_13 := pTR2_12.keep (fun j z1 z2 => wP_off e13 hl12 (by omega))
  have pMS7_13 := pMS7_12.keep (fun j z1 z2 => wP_off e13 hl12 (by omega))
  have pMS10_13 := pMS10_12.keep (fun j z1 z2 => wP_off e13 hl12 (by omega))
  have fr13 : ∀ j, j < 13 → h13[j]? = h[j]? := fun j z1 => (wP_off e13 hl12 (by omega)).trans (fr12 j z1)
  have hl13 : h13.length = 29 := by have z9 := wP_len e13 hl12; omega
  refine w_dup d_PR_init_68 rfl ?_
  refine w_callI (q := 28) (as := []) (st := [.ref 28, .int (nI 0), .ref 21]) d_PR_init_69 yM_OB_init rfl rfl l_PR_37 iM_OB_init rfl rfl (m_OB_init hl13 c13) (by decide) (by decide) (by decide) (by decide) (Nat.le_of_ble_eq_true rfl) ?_
  rintro _ h14 ⟨rfl, hm14, pOB14, g14⟩
  have hl14 : h14.length = 32 := by omega
  refine w_eq (nc' := 18) (u' := 1520) (st' := [.ref 28, .int (nI 0), .ref 21]) rfl ?_
  have hc_14 := (g14 13 (by omega)).trans hc_13
  have c4_14 := (g14 21 (by omega)).trans c4_13
  have pTR2_14 := pTR2_13.keep (fun j z1 z2 => g14 j (by omega))
  have pMS7_14 := pMS7_13.keep (fun j z1 z2 => g14 j (by omega))
  have pMS10_14 := pMS10_13.keep (fun j z1 z2 => g14 j (by omega))
  have fr14 : ∀ j, j < 13 → h14[j]? = h[j]? := fun j z1 => (g14 j (by omega)).trans (fr13 j z1)
  refine w_aast d_PR_init_72 c4_14 rfl pOB14.1 rfl (vp_in_nI (by decide) (by decide)) ?_
  refine w_nm (fun h15 e15 => ?_)
  have hc_15 := wS_ne e15 (by omega) hc_14
  have c4_15 := wS_eq e15 c4_14
  have hl15 := wS_len e15 hl14
  have pTR2_15 := pTR2_14.keep (fun j z1 z2 => wS_off e15 (by omega))
  have pMS7_15 := pMS7_14.keep (fun j z1 z2 => wS_off e15 (by omega))
  have pMS10_15 := pMS10_14.keep (fun j z1 z2 => wS_off e15 (by omega))
  have pOB14_15 := pOB14.keep (fun j z1 z2 => wS_off e15 (by omega))
  have fr15 : ∀ j, j < 13 → h15[j]? = h[j]? := fun j z1 => (wS_off e15 (by omega)).trans (fr14 j z1)
  refine w_iinc (v := nI 1) d_PR_init_73 rfl (by decide) (by decide) ?_
  refine w_pl (pl' := [some (.ref 13), some (.int (nI 1))]) rfl ?_
  refine w_goto (tgt := 55) d_PR_init_76 rfl ?_
  refine w_iload_n d_PR_init_55 rfl ?_
  refine w_iconst (v := nI 5) d_PR_init_56 (by decide) ?_
  refine w_icmp_ge (tgt := 79) d_PR_init_57 rfl (fun z => absurd z (by decide)) (fun _ => ?_)
  refine w_aload_n d_PR_init_60 rfl rfl ?_
  refine w_get d_PR_init_61 f_PR_20 hc_15 rfl ?_
  refine w_iload_n d_PR_init_64 rfl ?_
  refine w_new (n := 5) d_PR_init_65 n_PR_18 (fun r hr => by cases hr; rfl) (by decide) (by decide) ?_
  refine w_nm (fun h16 e16 => ?_)
  refine w_eq (nc' := 19) (u' := 1525) (st' := [.ref 32, .int (nI 1), .ref 21]) (by rw [hl15]) ?_
  have hc_16 := wP_old e16 hc_15
  have c4_16 := wP_old e16 c4_15
  have c16 := wP_new e16 hl15
  rw [wdf_2] at c16
  have pTR2_16 := pTR2_15.keep (fun j z1 z2 => wP_off e16 hl15 (by omega))
  have pMS7_16 := pMS7_15.keep (fun j z1 z2 => wP_off e16 hl15 (by omega))
  have pMS10_16 := pMS10_15.keep (fun j z1 z2 => wP_off e16 hl15 (by omega))
  have pOB14_16 := pOB14_15.keep (fun j z1 z2 => wP_off e16 hl15 (by omega))
  have fr16 : ∀ j, j < 13 → h16[j]? = h[j]? := fun j z1 => (wP_off e16 hl15 (by omega)).trans (fr15 j z1)
  have hl16 : h16.length = 33 := by have z9 := wP_len e16 hl15; omega
  refine w_dup d_PR_init_68 rfl ?_
  refine w_callI (q := 32) (as := []) (st := [.ref 32, .int (nI 1), .ref 21]) d_PR_init_69 yM_OB_init rfl rfl l_PR_37 iM_OB_init rfl rfl (m_OB_init hl16 c16) (by decide) (by decide) (by decide) (by decide) (Nat.le_of_ble_eq_true rfl) ?_
  rintro _ h17 ⟨rfl, hm17, pOB17, g17⟩
  have hl17 : h17.length = 36 := by omega
  refine w_eq (nc' := 22) (u' := 1945) (st' := [.ref 32, .int (nI 1), .ref 21]) rfl ?_
  have hc_17 := (g17 13 (by omega)).trans hc_16
  have c4_17 := (g17 21 (by omega)).trans c4_16
  have pTR2_17 := pTR2_16.keep (fun j z1 z2 => g17 j (by omega))
  have pMS7_17 := pMS7_16.keep (fun j z1 z2 => g17 j (by omega))
  have pMS10_17 := pMS10_16.keep (fun j z1 z2 => g17 j (by omega))
  have pOB14_17 := pOB14_16.keep (fun j z1 z2 => g17 j (by omega))
  have fr17 : ∀ j, j < 13 → h17[j]? = h[j]? := fun j z1 => (g17 j (by omega)).trans (fr16 j z1)
  refine w_aast d_PR_init_72 c4_17 rfl pOB17.1 rfl (vp_in_nI (by decide) (by decide)) ?_
  refine w_nm (fun h18 e18 => ?_)
  have hc_18 := wS_ne e18 (by omega) hc_17
  have c4_18 := wS_eq e18 c4_17
  have hl18 := wS_len e18 hl17
  have pTR2_18 := pTR2_17.keep (fun j z1 z2 => wS_off e18 (by omega))
  have pMS7_18 := pMS7_17.keep (fun j z1 z2 => wS_off e18 (by omega))
  have pMS10_18 := pMS10_17.keep (fun j z1 z2 => wS_off e18 (by omega))
  have pOB14_18 := pOB14_17.keep (fun j z1 z2 => wS_off e18 (by omega))
  have pOB17_18 := pOB17.keep (fun j z1 z2 => wS_off e18 (by omega))
  have fr18 : ∀ j, j < 13 → h18[j]? = h[j]? := fun j z1 => (wS_off e18 (by omega)).trans (fr17 j z1)
  refine w_iinc (v := nI 2) d_PR_init_73 rfl (by decide) (by decide) ?_
  refine w_pl (pl' := [some (.ref 13), some (.int (nI 2))]) rfl ?_
  refine w_goto (tgt := 55) d_PR_init_76 rfl ?_
  refine w_iload_n d_PR_init_55 rfl ?_
  refine w_iconst (v := nI 5) d_PR_init_56 (by decide) ?_
  refine w_icmp_ge (tgt := 79) d_PR_init_57 rfl (fun z => absurd z (by decide)) (fun _ => ?_)
  refine w_aload_n d_PR_init_60 rfl rfl ?_
  refine w_get d_PR_init_61 f_PR_20 hc_18 rfl ?_
  refine w_iload_n d_PR_init_64 rfl ?_
  refine w_new (n := 5) d_PR_init_65 n_PR_18 (fun r hr => by cases hr; rfl) (by decide) (by decide) ?_
  refine w_nm (fun h19 e19 => ?_)
  refine w_eq (nc' := 23) (u' := 1950) (st' := [.ref 36, .int (nI 2), .ref 21]) (by rw [hl18]) ?_
  have hc_19 := wP_old e19 hc_18
  have c4_19 := wP_old e19 c4_18
  have c19 := wP_new e19 hl18
  rw [wdf_2] at c19
  have pTR2_19 := pTR2_18.keep (fun j z1 z2 => wP_off e19 hl18 (by omega))
  have pMS7_19 := pMS7_18.keep (fun j z1 z2 => wP_off e19 hl18 (by omega))
  have pMS10_19 := pMS10_18.keep (fun j z1 z2 => wP_off e19 hl18 (by omega))
  have pOB14_19 := pOB14_18.keep (fun j z1 z2 => wP_off e19 hl18 (by omega))
  have pOB17_19 := pOB17_18.keep (fun j z1 z2 => wP_off e19 hl18 (by omega))
  have fr19 : ∀ j, j < 13 → h19[j]? = h[j]? := fun j z1 => (wP_off e19 hl18 (by omega)).trans (fr18 j z1)
  have hl19 : h19.length = 37 := by have z9 := wP_len e19 hl18; omega
  refine w_dup d_PR_init_68 rfl ?_
  refine w_callI (q := 36) (as := []) (st := [.ref 36, .int (nI 2), .ref 21]) d_PR_init_69 yM_OB_init rfl rfl l_PR_37 iM_OB_init rfl rfl (m_OB_init hl19 c19) (by decide) (by decide) (by decide) (by decide) (Nat.le_of_ble_eq_true rfl) ?_
  rintro _ h20 ⟨rfl, hm20, pOB20, g20⟩
  have hl20 : h20.length = 40 := by omega
  refine w_eq (nc' := 26) (u' := 2370) (st' := [.ref 36, .int (nI 2), .ref 21]) rfl ?_
  have hc_20 := (g20 13 (by omega)).trans hc_19
  have c4_20 := (g20 21 (by omega)).trans c4_19
  have pTR2_20 := pTR2_19.keep (fun j z1 z2 => g20 j (by omega))
  have pMS7_20 := pMS7_19.keep (fun j z1 z2 => g20 j (by omega))
  have pMS10_20 := pMS10_19.keep (fun j z1 z2 => g20 j (by omega))
  have pOB14_20 := pOB14_19.keep (fun j z1 z2 => g20 j (by omega))
  have pOB17_20 := pOB17_19.keep (fun j z1 z2 => g20 j (by omega))
  have fr20 : ∀ j, j < 13 → h20[j]? = h[j]? := fun j z1 => (g20 j (by omega)).trans (fr19 j z1)
  refine w_aast d_PR_init_72 c4_20 rfl pOB20.1 rfl (vp_in_nI (by decide) (by decide)) ?_
  refine w_nm (fun h21 e21 => ?_)
  have hc_21 := wS_ne e21 (by omega) hc_20
  have c4_21 := wS_eq e21 c4_20
  have hl21 := wS_len e21 hl20
  have pTR2_21 := pTR2_20.keep (fun j z1 z2 => wS_off e21 (by omega))
  have pMS7_21 := pMS7_20.keep (fun j z1 z2 => wS_off e21 (by omega))
  have pMS10_21 := pMS10_20.keep (fun j z1 z2 => wS_off e21 (by omega))
  have pOB14_21 := pOB14_20.keep (fun j z1 z2 => wS_off e21 (by omega))
  have pOB17_21 := pOB17_20.keep (fun j z1 z2 => wS_off e21 (by omega))
  have pOB20_21 := pOB20.keep (fun j z1 z2 => wS_off e21 (by omega))
  have fr21 : ∀ j, j < 13 → h21[j]? = h[j]? := fun j z1 => (wS_off e21 (by omega)).trans (fr20 j z1)
  refine w_iinc (v := nI 3) d_PR_init_73 rfl (by decide) (by decide) ?_
  refine w_pl (pl' := [some (.ref 13), some (.int (nI 3))]) rfl ?_
  refine w_goto (tgt := 55) d_PR_init_76 rfl ?_
  refine w_iload_n d_PR_init_55 rfl ?_
  refine w_iconst (v := nI 5) d_PR_init_56 (by decide) ?_
  refine w_icmp_ge (tgt := 79) d_PR_init_57 rfl (fun z => absurd z (by decide)) (fun _ => ?_)
  refine w_aload_n d_PR_init_60 rfl rfl ?_
  refine w_get d_PR_init_61 f_PR_20 hc_21 rfl ?_
  refine w_iload_n d_PR_init_64 rfl ?_
  refine w_new (n := 5) d_PR_init_65 n_PR_18 (fun r hr => by cases hr; rfl) (by decide) (by decide) ?_
  refine w_nm (fun h22 e22 => ?_)
  refine w_eq (nc' := 27) (u' := 2375) (st' := [.ref 40, .int (nI 3), .ref 21]) (by rw [hl21]) ?_
  have hc_22 := wP_old e22 hc_21
  have c4_22 := wP_old e22 c4_21
  have c22 := wP_new e22 hl21
  rw [wdf_2] at c22
  have pTR2_22 := pTR2_21.keep (fun j z1 z2 => wP_off e22 hl21 (by omega))
  have pMS7_22 := pMS7_21.keep (fun j z1 z2 => wP_off e22 hl21 (by omega))
  have pMS10_22 := pMS10_21.keep (fun j z1 z2 => wP_off e22 hl21 (by omega))
  have pOB14_22 := pOB14_21.keep (fun j z1 z2 => wP_off e22 hl21 (by omega))
  have pOB17_22 := pOB17_21.keep (fun j z1 z2 => wP_off e22 hl21 (by omega))
  have pOB20_22 := pOB20_21.keep (fun j z1 z2 => wP_off e22 hl21 (by omega))
  have fr22 : ∀ j, j < 13 → h22[j]? = h[j]? := fun j z1 => (wP_off e22 hl21 (by omega)).trans (fr21 j z1)
  have hl22 : h22.length = 41 := by have z9 := wP_len e22 hl21; omega
  refine w_dup d_PR_init_68 rfl ?_
  refine w_callI (q := 40) (as := []) (st := [.ref 40, .int (nI 3), .ref 21]) d_PR_init_69 yM_OB_init rfl rfl l_PR_37 iM_OB_init rfl rfl (m_OB_init hl22 c22) (by decide) (by decide) (by decide) (by decide) (Nat.le_of_ble_eq_true rfl) ?_
  rintro _ h23 ⟨rfl, hm23, pOB23, g23⟩
  have hl23 : h23.length = 44 := by omega
  refine w_eq (nc' := 30) (u' := 2795) (st' := [.ref 40, .int (nI 3), .ref 21]) rfl ?_
  have hc_23 := (g23 13 (by omega)).trans hc_22
  have c4_23 := (g23 21 (by omega)).trans c4_22
  have pTR2_23 := pTR2_22.keep (fun j z1 z2 => g23 j (by omega))
  have pMS7_23 := pMS7_22.keep (fun j z1 z2 => g23 j (by omega))
  have pMS10_23 := pMS10_22.keep (fun j z1 z2 => g23 j (by omega))
  have pOB14_23 := pOB14_22.keep (fun j z1 z2 => g23 j (by omega))
  have pOB17_23 := pOB17_22.keep (fun j z1 z2 => g23 j (by omega))
  have pOB20_23 := pOB20_22.keep (fun j z1 z2 => g23 j (by omega))
  have fr23 : ∀ j, j < 13 → h23[j]? = h[j]? := fun j z1 => (g23 j (by omega)).trans (fr22 j z1)
  refine w_aast d_PR_init_72 c4_23 rfl pOB23.1 rfl (vp_in_nI (by decide) (by decide)) ?_
  refine w_nm (fun h24 e24 => ?_)
  have hc_24 := wS_ne e24 (by omega) hc_23
  have c4_24 := wS_eq e24 c4_23
  have hl24 := wS_len e24 hl23
  have pTR2_24 := pTR2_23.keep (fun j z1 z2 => wS_off e24 (by omega))
  have pMS7_24 := pMS7_23.keep (fun j z1 z2 => wS_off e24 (by omega))
  have pMS10_24 := pMS10_23.keep (fun j z1 z2 => wS_off e24 (by omega))
  have pOB14_24 := pOB14_23.keep (fun j z1 z2 => wS_off e24 (by omega))
  have pOB17_24 := pOB17_23.keep (fun j z1 z2 => wS_off e24 (by omega))
  have pOB20_24 := pOB20_23.keep (fun j z1 z2 => wS_off e24 (by omega))
  have pOB23_24 := pOB23.keep (fun j z1 z2 => wS_off e24 (by omega))
  have fr24 : ∀ j, j < 13 → h24[j]? = h[j]? := fun j z1 => (wS_off e24 (by omega)).trans (fr23 j z1)
  refine w_iinc (v := nI 4) d_PR_init_73 rfl (by decide) (by decide) ?_
  refine w_pl (pl' := [some (.ref 13), some (.int (nI 4))]) rfl ?_
  refine w_goto (tgt := 55) d_PR_init_76 rfl ?_
  refine w_iload_n d_PR_init_55 rfl ?_
  refine w_iconst (v := nI 5) d_PR_init_56 (by decide) ?_
  refine w_icmp_ge (tgt := 79) d_PR_init_57 rfl (fun z => absurd z (by decide)) (fun _ => ?_)
  refine w_aload_n d_PR_init_60 rfl rfl ?_
  refine w_get d_PR_init_61 f_PR_20 hc_24 rfl ?_
  refine w_iload_n d_PR_init_64 rfl ?_
  refine w_new (n := 5) d_PR_init_65 n_PR_18 (fun r hr => by cases hr; rfl) (by decide) (by decide) ?_
  refine w_nm (fun h25 e25 => ?_)
  refine w_eq (nc' := 31) (u' := 2800) (st' := [.ref 44, .int (nI 4), .ref 21]) (by rw [hl24]) ?_
  have hc_25 := wP_old e25 hc_24
  have c4_25 := wP_old e25 c4_24
  have c25 := wP_new e25 hl24
  rw [wdf_2] at c25
  have pTR2_25 := pTR2_24.keep (fun j z1 z2 => wP_off e25 hl24 (by omega))
  have pMS7_25 := pMS7_24.keep (fun j z1 z2 => wP_off e25 hl24 (by omega))
  have pMS10_25 := pMS10_24.keep (fun j z1 z2 => wP_off e25 hl24 (by omega))
  have pOB14_25 := pOB14_24.keep (fun j z1 z2 => wP_off e25 hl24 (by omega))
  have pOB17_25 := pOB17_24.keep (fun j z1 z2 => wP_off e25 hl24 (by omega))
  have pOB20_25 := pOB20_24.keep (fun j z1 z2 => wP_off e25 hl24 (by omega))
  have pOB23_25 := pOB23_24.keep (fun j z1 z2 => wP_off e25 hl24 (by omega))
  have fr25 : ∀ j, j < 13 → h25[j]? = h[j]? := fun j z1 => (wP_off e25 hl24 (by omega)).trans (fr24 j z1)
  have hl25 : h25.length = 45 := by have z9 := wP_len e25 hl24; omega
  refine w_dup d_PR_init_68 rfl ?_
  refine w_callI (q := 44) (as := []) (st := [.ref 44, .int (nI 4), .ref 21]) d_PR_init_69 yM_OB_init rfl rfl l_PR_37 iM_OB_init rfl rfl (m_OB_init hl25 c25) (by decide) (by decide) (by decide) (by decide) (Nat.le_of_ble_eq_true rfl) ?_
  rintro _ h26 ⟨rfl, hm26, pOB26, g26⟩
  have hl26 : h26.length = 48 := by omega
  refine w_eq (nc' := 34) (u' := 3220) (st' := [.ref 44, .int (nI 4), .ref 21]) rfl ?_
  have hc_26 := (g26 13 (by omega)).trans hc_25
  have c4_26 := (g26 21 (by omega)).trans c4_25
  have pTR2_26 := pTR2_25.keep (fun j z1 z2 => g26 j (by omega))
  have pMS7_26 := pMS7_25.keep (fun j z1 z2 => g26 j (by omega))
  have pMS10_26 := pMS10_25.keep (fun j z1 z2 => g26 j (by omega))
  have pOB14_26 := pOB14_25.keep (fun j z1 z2 => g26 j (by omega))
  have pOB17_26 := pOB17_25.keep (fun j z1 z2 => g26 j (by omega))
  have pOB20_26 := pOB20_25.keep (fun j z1 z2 => g26 j (by omega))
  have pOB23_26 := pOB23_25.keep (fun j z1 z2 => g26 j (by omega))
  have fr26 : ∀ j, j < 13 → h26[j]? = h[j]? := fun j z1 => (g26 j (by omega)).trans (fr25 j z1)
  refine w_aast d_PR_init_72 c4_26 rfl pOB26.1 rfl (vp_in_nI (by decide) (by decide)) ?_
  refine w_nm (fun h27 e27 => ?_)
  have hc_27 := wS_ne e27 (by omega) hc_26
  have c4_27 := wS_eq e27 c4_26
  have hl27 := wS_len e27 hl26
  have pTR2_27 := pTR2_26.keep (fun j z1 z2 => wS_off e27 (by omega))
  have pMS7_27 := pMS7_26.keep (fun j z1 z2 => wS_off e27 (by omega))
  have pMS10_27 := pMS10_26.keep (fun j z1 z2 => wS_off e27 (by omega))
  have pOB14_27 := pOB14_26.keep (fun j z1 z2 => wS_off e27 (by omega))
  have pOB17_27 := pOB17_26.keep (fun j z1 z2 => wS_off e27 (by omega))
  have pOB20_27 := pOB20_26.keep (fun j z1 z2 => wS_off e27 (by omega))
  have pOB23_27 := pOB23_26.keep (fun j z1 z2 => wS_off e27 (by omega))
  have pOB26_27 := pOB26.keep (fun j z1 z2 => wS_off e27 (by omega))
  have fr27 : ∀ j, j < 13 → h27[j]? = h[j]? := fun j z1 => (wS_off e27 (by omega)).trans (fr26 j z1)
  refine w_iinc (v := nI 5) d_PR_init_73 rfl (by decide) (by decide) ?_
  refine w_pl (pl' := [some (.ref 13), some (.int (nI 5))]) rfl ?_
  refine w_goto (tgt := 55) d_PR_init_76 rfl ?_
  refine w_iload_n d_PR_init_55 rfl ?_
  refine w_iconst (v := nI 5) d_PR_init_56 (by decide) ?_
  refine w_icmp_ge (tgt := 79) d_PR_init_57 rfl (fun _ => ?_) (fun z => absurd (by decide) z)
  rw [← hEN]
  refine w_vret d_PR_init_79 rfl ?_
  refine ⟨rfl, hl27, ⟨hc_27, ⟨_, _, _, pTR2_27⟩, ⟨_, c4_27, fun k hk => ?_⟩, fun k hk => ?_, ⟨_, _, pMS7_27⟩, ⟨_, _, pMS10_27⟩, Or.inl rfl, Or.inr (Or.inl rfl), fun k hk => ?_, by decide, fun k hk => ⟨(by dsimp only; omega), (by dsimp only; omega)⟩, fun i j h1 h2 h3 => (by dsimp only; omega)⟩, fr27⟩
  · rcases k with _ | _ | _ | _ | _ | k <;> first | rfl | omega
  · rcases k with _ | _ | _ | _ | _ | k
    · exact pOB14_27
    · exact pOB17_27
    · exact pOB20_27
    · exact pOB23_27
    · exact pOB26_27
    · omega
  · show P1 (29 + 4 * k)
    unfold P1
    omega
set_option maxHeartbeats 4000000 in
set_option maxRecDepth 100000 in
theorem m_CP_init {h : wH} (hl : h.length = 1) (hc : h[0]? = some (.inr (6, [.null, .null, .null, .null, .null, .null]))) : PM X M_CP_init 4 56 5456 [.ref 0] h (fun z h' => z = none ∧ h'.length = 57 ∧ hCP h' [] (fun _ => ([], [])) ∧ ∀ j, j < 0 → h'[j]? = h[j]?) := by
  refine PM.at (pl := [some (.ref 0), none]) rfl rfl (by simp [wle, wen]) ?_
  generalize hEN : wEm X 56 5456 _ = EN
  have fr0 : ∀ j, j < 0 → h[j]? = h[j]? := fun _ _ => rfl
  refine w_aload_n d_CP_init_0 rfl rfl ?_
  refine w_objInit d_CP_init_1 o_CP_1 oInit1 oInit2 (by decide) (by decide) (Nat.le_of_ble_eq_true rfl) ?_
  refine w_aload_n d_CP_init_4 rfl rfl ?_
  refine w_new (n := 2) d_CP_init_5 n_CP_7 (fun r hr => by cases hr; rfl) (by decide) (by decide) ?_
  refine w_nm (fun h1 e1 => ?_)
  refine w_eq (nc' := 1) (u' := 2) (st' := [.ref 1, .ref 0]) (by rw [hl]) ?_
  have hc_1 := wP_old e1 hc
  have c1 := wP_new e1 hl
  rw [wdf_0] at c1
  have fr1 : ∀ j, j < 0 → h1[j]? = h[j]? := fun j z1 => (wP_off e1 hl (by omega)).trans (fr0 j z1)
  have hl1 : h1.length = 2 := by have z9 := wP_len e1 hl; omega
  refine w_dup d_CP_init_8 rfl ?_
  refine w_callI (q := 1) (as := []) (st := [.ref 1, .ref 0]) d_CP_init_9 yM_CR_init rfl rfl l_CP_9 iM_CR_init rfl rfl (m_CR_init hl1 c1) (by decide) (by decide) (by decide) (by decide) (Nat.le_of_ble_eq_true rfl) ?_
  rintro _ h2 ⟨rfl, hm2, pCR2, g2⟩
  have hl2 : h2.length = 3 := by omega
  refine w_eq (nc' := 2) (u' := 62) (st' := [.ref 1, .ref 0]) rfl ?_
  have hc_2 := (g2 0 (by omega)).trans hc_1
  have fr2 : ∀ j, j < 0 → h2[j]? = h[j]? := fun j z1 => (g2 j (by omega)).trans (fr1 j z1)
  refine w_putF d_CP_init_12 f_CP_10 (by decide +kernel) rfl (nnf (by decide +kernel)) hc_2 rfl rfl rfl ?_
  refine w_nm (fun h3 e3 => ?_)
  have hc_3 := wS_eq e3 hc_2
  have hl3 := wS_len e3 hl2
  have pCR2_3 := pCR2.keep (fun j z1 z2 => wS_off e3 (by omega))
  have fr3 : ∀ j, j < 0 → h3[j]? = h[j]? := fun j z1 => (wS_off e3 (by omega)).trans (fr2 j z1)
  refine w_aload_n d_CP_init_15 rfl rfl ?_
  refine w_iconst (v := nI 3) d_CP_init_16 (by decide) ?_
  refine w_newQ (N := 3) (t := 3) (C := "CodePointSets$MemberSet") d_CP_init_17 c_CP_16 (by decide) rfl (by decide) (by decide) (by decide) (by decide) (by decide) ?_
  refine w_nm (fun h4 e4 => ?_)
  refine w_eq (nc' := 3) (u' := 65) (st' := [.ref 3, .ref 0]) (by rw [hl3]) ?_
  have hc_4 := wP_old e4 hc_3
  have c4 := wP_new e4 hl3
  have pCR2_4 := pCR2_3.keep (fun j z1 z2 => wP_off e4 hl3 (by omega))
  have fr4 : ∀ j, j < 0 → h4[j]? = h[j]? := fun j z1 => (wP_off e4 hl3 (by omega)).trans (fr3 j z1)
  have hl4 : h4.length = 4 := by have z9 := wP_len e4 hl3; omega
  refine w_putF d_CP_init_20 f_CP_18 (by decide +kernel) rfl (nnf (by decide +kernel)) hc_4 rfl rfl rfl ?_
  refine w_nm (fun h5 e5 => ?_)
  have hc_5 := wS_eq e5 hc_4
  have c4_5 := wS_ne e5 (by omega) c4
  have hl5 := wS_len e5 hl4
  have pCR2_5 := pCR2_4.keep (fun j z1 z2 => wS_off e5 (by omega))
  have fr5 : ∀ j, j < 0 → h5[j]? = h[j]? := fun j z1 => (wS_off e5 (by omega)).trans (fr4 j z1)
  refine w_iconst (v := nI 0) d_CP_init_23 (by decide) ?_
  refine w_istore_n d_CP_init_24 (by decide) ?_
  refine w_pl (pl' := [some (.ref 0), some (.int (nI 0))]) rfl ?_
  refine w_iload_n d_CP_init_25 rfl ?_
  refine w_iconst (v := nI 3) d_CP_init_26 (by decide) ?_
  refine w_icmp_ge (tgt := 49) d_CP_init_27 rfl (fun z => absurd z (by decide)) (fun _ => ?_)
  refine w_aload_n d_CP_init_30 rfl rfl ?_
  refine w_get d_CP_init_31 f_CP_18 hc_5 rfl ?_
  refine w_iload_n d_CP_init_34 rfl ?_
  refine w_new (n := 4) d_CP_init_35 n_CP_16 (fun r hr => by cases hr; rfl) (by decide) (by decide) ?_
  refine w_nm (fun h6 e6 => ?_)
  refine w_eq (nc' := 4) (u' := 69) (st' := [.ref 4, .int (nI 0), .ref 3]) (by rw [hl5]) ?_
  have hc_6 := wP_old e6 hc_5
  have c4_6 := wP_old e6 c4_5
  have c6 := wP_new e6 hl5
  rw [wdf_1] at c6
  have pCR2_6 := pCR2_5.keep (fun j z1 z2 => wP_off e6 hl5 (by omega))
  have fr6 : ∀ j, j < 0 → h6[j]? = h[j]? := fun j z1 => (wP_off e6 hl5 (by omega)).trans (fr5 j z1)
  have hl6 : h6.length = 5 := by have z9 := wP_len e6 hl5; omega
  refine w_dup d_CP_init_38 rfl ?_
  refine w_callI (q := 4) (as := []) (st := [.ref 4, .int (nI 0), .ref 3]) d_CP_init_39 yM_MS_init rfl rfl l_CP_22 iM_MS_init rfl rfl (m_MS_init hl6 c6) (by decide) (by decide) (by decide) (by decide) (Nat.le_of_ble_eq_true rfl) ?_
  rintro _ h7 ⟨rfl, hm7, pMS7, g7⟩
  have hl7 : h7.length = 7 := by omega
  refine w_eq (nc' := 6) (u' := 485) (st' := [.ref 4, .int (nI 0), .ref 3]) rfl ?_
  have hc_7 := (g7 0 (by omega)).trans hc_6
  have c4_7 := (g7 3 (by omega)).trans c4_6
  have pCR2_7 := pCR2_6.keep (fun j z1 z2 => g7 j (by omega))
  have fr7 : ∀ j, j < 0 → h7[j]? = h[j]? := fun j z1 => (g7 j (by omega)).trans (fr6 j z1)
  refine w_aast d_CP_init_42 c4_7 rfl pMS7.choose_spec.choose_spec.1 rfl (vp_in_nI (by decide) (by decide)) ?_
  refine w_nm (fun h8 e8 => ?_)
  have hc_8 := wS_ne e8 (by omega) hc_7
  have c4_8 := wS_eq e8 c4_7
  have hl8 := wS_len e8 hl7
  have pCR2_8 := pCR2_7.keep (fun j z1 z2 => wS_off e8 (by omega))
  have pMS7_8 := pMS7.keep (fun j z1 z2 => wS_off e8 (by omega))
  have fr8 : ∀ j, j < 0 → h8[j]? = h[j]? := fun j z1 => (wS_off e8 (by omega)).trans (fr7 j z1)
  refine w_iinc (v := nI 1) d_CP_init_43 rfl (by decide) (by decide) ?_
  refine w_pl (pl' := [some (.ref 0), some (.int (nI 1))]) rfl ?_
  refine w_goto (tgt := 25) d_CP_init_46 rfl ?_
  refine w_iload_n d_CP_init_25 rfl ?_
  refine w_iconst (v := nI 3) d_CP_init_26 (by decide) ?_
  refine w_icmp_ge (tgt := 49) d_CP_init_27 rfl (fun z => absurd z (by decide)) (fun _ => ?_)
  refine w_aload_n d_CP_init_30 rfl rfl ?_
  refine w_get d_CP_init_31 f_CP_18 hc_8 rfl ?_
  refine w_iload_n d_CP_init_34 rfl ?_
  refine w_new (n := 4) d_CP_init_35 n_CP_16 (fun r hr => by cases hr; rfl) (by decide) (by decide) ?_
  refine w_nm (fun h9 e9 => ?_)
  refine w_eq (nc' := 7) (u' := 489) (st' := [.ref 7, .int (nI 1), .ref 3]) (by rw [hl8]) ?_
  have hc_9 := wP_old e9 hc_8
  have c4_9 := wP_old e9 c4_8
  have c9 := wP_new e9 hl8
  rw [wdf_1] at c9
  have pCR2_9 := pCR2_8.keep (fun j z1 z2 => wP_off e9 hl8 (by omega))
  have pMS7_9 := pMS7_8.keep (fun j z1 z2 => wP_off e9 hl8 (by omega))
  have fr9 : ∀ j, j < 0 → h9[j]? = h[j]? := fun j z1 => (wP_off e9 hl8 (by omega)).trans (fr8 j z1)
  have hl9 : h9.length = 8 := by have z9 := wP_len e9 hl8; omega
  refine w_dup d_CP_init_38 rfl ?_
  refine w_callI (q := 7) (as := []) (st := [.ref 7, .int (nI 1), .ref 3]) d_CP_init_39 yM_MS_init rfl rfl l_CP_22 iM_MS_init rfl rfl (m_MS_init hl9 c9) (by decide) (by decide) (by decide) (by decide) (Nat.le_of_ble_eq_true rfl) ?_
  rintro _ h10 ⟨rfl, hm10, pMS10, g10⟩
  have hl10 : h10.length = 10 := by omega
  refine w_eq (nc' := 9) (u' := 905) (st' := [.ref 7, .int (nI 1), .ref 3]) rfl ?_
  have hc_10 := (g10 0 (by omega)).trans hc_9
  have c4_10 := (g10 3 (by omega)).trans c4_9
  have pCR2_10 := pCR2_9.keep (fun j z1 z2 => g10 j (by omega))
  have pMS7_10 := pMS7_9.keep (fun j z1 z2 => g10 j (by omega))
  have fr10 : ∀ j, j < 0 → h10[j]? = h[j]? := fun j z1 => (g10 j (by omega)).trans (fr9 j z1)
  refine w_aast d_CP_init_42 c4_10 rfl pMS10.choose_spec.choose_spec.1 rfl (vp_in_nI (by decide) (by decide)) ?_
  refine w_nm (fun h11 e11 => ?_)
  have hc_11 := wS_ne e11 (by omega) hc_10
  have c4_11 := wS_eq e11 c4_10
  have hl11 := wS_len e11 hl10
  have pCR2_11 := pCR2_10.keep (fun j z1 z2 => wS_off e11 (by omega))
  have pMS7_11 := pMS7_10.keep (fun j z1 z2 => wS_off e11 (by omega))
  have pMS10_11 := pMS10.keep (fun j z1 z2 => wS_off e11 (by omega))
  have fr11 : ∀ j, j < 0 → h11[j]? = h[j]? := fun j z1 => (wS_off e11 (by omega)).trans (fr10 j z1)
  refine w_iinc (v := nI 2) d_CP_init_43 rfl (by decide) (by decide) ?_
  refine w_pl (pl' := [some (.ref 0), some (.int (nI 2))]) rfl ?_
  refine w_goto (tgt := 25) d_CP_init_46 rfl ?_
  refine w_iload_n d_CP_init_25 rfl ?_
  refine w_iconst (v := nI 3) d_CP_init_26 (by decide) ?_
  refine w_icmp_ge (tgt := 49) d_CP_init_27 rfl (fun z => absurd z (by decide)) (fun _ => ?_)
  refine w_aload_n d_CP_init_30 rfl rfl ?_
  refine w_get d_CP_init_31 f_CP_18 hc_11 rfl ?_
  refine w_iload_n d_CP_init_34 rfl ?_
  refine w_new (n := 4) d_CP_init_35 n_CP_16 (fun r hr => by cases hr; rfl) (by decide) (by decide) ?_
  refine w_nm (fun h12 e12 => ?_)
  refine w_eq (nc' := 10) (u' := 909) (st' := [.ref 10, .int (nI 2), .ref 3]) (by rw [hl11]) ?_
  have hc_12 := wP_old e12 hc_11
  have c4_12 := wP_old e12 c4_11
  have c12 := wP_new e12 hl11
  rw [wdf_1] at c12
  have pCR2_12 := pCR2_11.keep (fun j z1 z2 => wP_off e12 hl11 (by omega))
  have pMS7_12 := pMS7_11.keep (fun j z1 z2 => wP_off e12 hl11 (by omega))
  have pMS10_12 := pMS10_11.keep (fun j z1 z2 => wP_off e12 hl11 (by omega))
  have fr12 : ∀ j, j < 0 → h12[j]? = h[j]? := fun j z1 => (wP_off e12 hl11 (by omega)).trans (fr11 j z1)
  have hl12 : h12.length = 11 := by have z9 := wP_len e12 hl11; omega
  refine w_dup d_CP_init_38 rfl ?_
  refine w_callI (q := 10) (as := []) (st := [.ref 10, .int (nI 2), .ref 3]) d_CP_init_39 yM_MS_init rfl rfl l_CP_22 iM_MS_init rfl rfl (m_MS_init hl12 c12) (by decide) (by decide) (by decide) (by decide) (Nat.le_of_ble_eq_true rfl) ?_
  rintro _ h13 ⟨rfl, hm13, pMS13, g13⟩
  have hl13 : h13.length = 13 := by omega
  refine w_eq (nc' := 12) (u' := 1325) (st' := [.ref 10, .int (nI 2), .ref 3]) rfl ?_
  have hc_13 := (g13 0 (by omega)).trans hc_12
  have c4_13 := (g13 3 (by omega)).trans c4_12
  have pCR2_13 := pCR2_12.keep (fun j z1 z2 => g13 j (by omega))
  have pMS7_13 := pMS7_12.keep (fun j z1 z2 => g13 j (by omega))
  have pMS10_13 := pMS10_12.keep (fun j z1 z2 => g13 j (by omega))
  have fr13 : ∀ j, j < 0 → h13[j]? = h[j]? := fun j z1 => (g13 j (by omega)).trans (fr12 j z1)
  refine w_aast d_CP_init_42 c4_13 rfl pMS13.choose_spec.choose_spec.1 rfl (vp_in_nI (by decide) (by decide)) ?_
  refine w_nm (fun h14 e14 => ?_)
  have hc_14 := wS_ne e14 (by omega) hc_13
  have c4_14 := wS_eq e14 c4_13
  have hl14 := wS_len e14 hl13
  have pCR2_14 := pCR2_13.keep (fun j z1 z2 => wS_off e14 (by omega))
  have pMS7_14 := pMS7_13.keep (fun j z1 z2 => wS_off e14 (by omega))
  have pMS10_14 := pMS10_13.keep (fun j z1 z2 => wS_off e14 (by omega))
  have pMS13_14 := pMS13.keep (fun j z1 z2 => wS_off e14 (by omega))
  have fr14 : ∀ j, j < 0 → h14[j]? = h[j]? := fun j z1 => (wS_off e14 (by omega)).trans (fr13 j z1)
  refine w_iinc (v := nI 3) d_CP_init_43 rfl (by decide) (by decide) ?_
  refine w_pl (pl' := [some (.ref 0), some (.int (nI 3))]) rfl ?_
  refine w_goto (tgt := 25) d_CP_init_46 rfl ?_
  refine w_iload_n d_CP_init_25 rfl ?_
  refine w_iconst (v := nI 3) d_CP_init_26 (by decide) ?_
  refine w_icmp_ge (tgt := 49) d_CP_init_27 rfl (fun _ => ?_) (fun z => absurd (by decide) z)
  refine w_aload_n d_CP_init_49 rfl rfl ?_
  refine w_new (n := 7) d_CP_init_50 n_CP_23 (fun r hr => by cases hr; rfl) (by decide) (by decide) ?_
  refine w_nm (fun h15 e15 => ?_)
  refine w_eq (nc' := 13) (u' := 1332) (st' := [.ref 13, .ref 0]) (by rw [hl14]) ?_
  have hc_15 := wP_old e15 hc_14
  have c4_15 := wP_old e15 c4_14
  have c15 := wP_new e15 hl14
  rw [wdf_3] at c15
  have pCR2_15 := pCR2_14.keep (fun j z1 z2 => wP_off e15 hl14 (by omega))
  have pMS7_15 := pMS7_14.keep (fun j z1 z2 => wP_off e15 hl14 (by omega))
  have pMS10_15 := pMS10_14.keep (fun j z1 z2 => wP_off e15 hl14 (by omega))
  have pMS13_15 := pMS13_14.keep (fun j z1 z2 => wP_off e15 hl14 (by omega))
  have fr15 : ∀ j, j < 0 → h15[j]? = h[j]? := fun j z1 => (wP_off e15 hl14 (by omega)).trans (fr14 j z1)
  have hl15 : h15.length = 14 := by have z9 := wP_len e15 hl14; omega
  refine w_dup d_CP_init_53 rfl ?_
  refine w_callI (q := 13) (as := []) (st := [.ref 13, .ref 0]) d_CP_init_54 yM_PR_init rfl rfl l_CP_25 iM_PR_init rfl rfl (m_PR_init hl15 c15) (by decide) (by decide) (by decide) (by decide) (Nat.le_of_ble_eq_true rfl) ?_
  rintro _ h16 ⟨rfl, hm16, pPR16, g16⟩
  have hl16 : h16.length = 48 := by omega
  refine w_eq (nc' := 47) (u' := 4552) (st' := [.ref 13, .ref 0]) rfl ?_
  have hc_16 := (g16 0 (by omega)).trans hc_15
  have c4_16 := (g16 3 (by omega)).trans c4_15
  have pCR2_16 := pCR2_15.keep (fun j z1 z2 => g16 j (by omega))
  have pMS7_16 := pMS7_15.keep (fun j z1 z2 => g16 j (by omega))
  have pMS10_16 := pMS10_15.keep (fun j z1 z2 => g16 j (by omega))
  have pMS13_16 := pMS13_15.keep (fun j z1 z2 => g16 j (by omega))
  have fr16 : ∀ j, j < 0 → h16[j]? = h[j]? := fun j z1 => (g16 j (by omega)).trans (fr15 j z1)
  refine w_putF d_CP_init_57 f_CP_26 (by decide +kernel) rfl (nnf (by decide +kernel)) hc_16 rfl rfl rfl ?_
  refine w_nm (fun h17 e17 => ?_)
  have hc_17 := wS_eq e17 hc_16
  have c4_17 := wS_ne e17 (by omega) c4_16
  have hl17 := wS_len e17 hl16
  have pCR2_17 := pCR2_16.keep (fun j z1 z2 => wS_off e17 (by omega))
  have pMS7_17 := pMS7_16.keep (fun j z1 z2 => wS_off e17 (by omega))
  have pMS10_17 := pMS10_16.keep (fun j z1 z2 => wS_off e17 (by omega))
  have pMS13_17 := pMS13_16.keep (fun j z1 z2 => wS_off e17 (by omega))
  have pPR16_17 := pPR16.keep (fun j z1 z2 => wS_off e17 (by omega))
  have fr17 : ∀ j, j < 0 → h17[j]? = h[j]? := fun j z1 => (wS_off e17 (by omega)).trans (fr16 j z1)
  refine w_aload_n d_CP_init_60 rfl rfl ?_
  refine w_new (n := 2) d_CP_init_61 n_CP_30 (fun r hr => by cases hr; rfl) (by decide) (by decide) ?_
  refine w_nm (fun h18 e18 => ?_)
  refine w_eq (nc' := 48) (u' := 4554) (st' := [.ref 48, .ref 0]) (by rw [hl17]) ?_
  have hc_18 := wP_old e18 hc_17
  have c4_18 := wP_old e18 c4_17
  have c18 := wP_new e18 hl17
  rw [wdf_4] at c18
  have pCR2_18 := pCR2_17.keep (fun j z1 z2 => wP_off e18 hl17 (by omega))
  have pMS7_18 := pMS7_17.keep (fun j z1 z2 => wP_off e18 hl17 (by omega))
  have pMS10_18 := pMS10_17.keep (fun j z1 z2 => wP_off e18 hl17 (by omega))
  have pMS13_18 := pMS13_17.keep (fun j z1 z2 => wP_off e18 hl17 (by omega))
  have pPR16_18 := pPR16_17.keep (fun j z1 z2 => wP_off e18 hl17 (by omega))
  have fr18 : ∀ j, j < 0 → h18[j]? = h[j]? := fun j z1 => (wP_off e18 hl17 (by omega)).trans (fr17 j z1)
  have hl18 : h18.length = 49 := by have z9 := wP_len e18 hl17; omega
  refine w_dup d_CP_init_64 rfl ?_
  refine w_callI (q := 48) (as := []) (st := [.ref 48, .ref 0]) d_CP_init_65 yM_PW_init rfl rfl l_CP_32 iM_PW_init rfl rfl (m_PW_init hl18 c18) (by decide) (by decide) (by decide) (by decide) (Nat.le_of_ble_eq_true rfl) ?_
  rintro _ h19 ⟨rfl, hm19, pPW19, g19⟩
  have hl19 : h19.length = 51 := by omega
  refine w_eq (nc' := 50) (u' := 4616) (st' := [.ref 48, .ref 0]) rfl ?_
  have hc_19 := (g19 0 (by omega)).trans hc_18
  have c4_19 := (g19 3 (by omega)).trans c4_18
  have pCR2_19 := pCR2_18.keep (fun j z1 z2 => g19 j (by omega))
  have pMS7_19 := pMS7_18.keep (fun j z1 z2 => g19 j (by omega))
  have pMS10_19 := pMS10_18.keep (fun j z1 z2 => g19 j (by omega))
  have pMS13_19 := pMS13_18.keep (fun j z1 z2 => g19 j (by omega))
  have pPR16_19 := pPR16_18.keep (fun j z1 z2 => g19 j (by omega))
  have fr19 : ∀ j, j < 0 → h19[j]? = h[j]? := fun j z1 => (g19 j (by omega)).trans (fr18 j z1)
  refine w_putF d_CP_init_68 f_CP_33 (by decide +kernel) rfl (nnf (by decide +kernel)) hc_19 rfl rfl rfl ?_
  refine w_nm (fun h20 e20 => ?_)
  have hc_20 := wS_eq e20 hc_19
  have c4_20 := wS_ne e20 (by omega) c4_19
  have hl20 := wS_len e20 hl19
  have pCR2_20 := pCR2_19.keep (fun j z1 z2 => wS_off e20 (by omega))
  have pMS7_20 := pMS7_19.keep (fun j z1 z2 => wS_off e20 (by omega))
  have pMS10_20 := pMS10_19.keep (fun j z1 z2 => wS_off e20 (by omega))
  have pMS13_20 := pMS13_19.keep (fun j z1 z2 => wS_off e20 (by omega))
  have pPR16_20 := pPR16_19.keep (fun j z1 z2 => wS_off e20 (by omega))
  have pPW19_20 := pPW19.keep (fun j z1 z2 => wS_off e20 (by omega))
  have fr20 : ∀ j, j < 0 → h20[j]? = h[j]? := fun j z1 => (wS_off e20 (by omega)).trans (fr19 j z1)
  refine w_aload_n d_CP_init_71 rfl rfl ?_
  refine w_new (n := 4) d_CP_init_72 n_CP_16 (fun r hr => by cases hr; rfl) (by decide) (by decide) ?_
  refine w_nm (fun h21 e21 => ?_)
  refine w_eq (nc' := 51) (u' := 4620) (st' := [.ref 51, .ref 0]) (by rw [hl20]) ?_
  have hc_21 := wP_old e21 hc_20
  have c4_21 := wP_old e21 c4_20
  have c21 := wP_new e21 hl20
  rw [wdf_1] at c21
  have pCR2_21 := pCR2_20.keep (fun j z1 z2 => wP_off e21 hl20 (by omega))
  have pMS7_21 := pMS7_20.keep (fun j z1 z2 => wP_off e21 hl20 (by omega))
  have pMS10_21 := pMS10_20.keep (fun j z1 z2 => wP_off e21 hl20 (by omega))
  have pMS13_21 := pMS13_20.keep (fun j z1 z2 => wP_off e21 hl20 (by omega))
  have pPR16_21 := pPR16_20.keep (fun j z1 z2 => wP_off e21 hl20 (by omega))
  have pPW19_21 := pPW19_20.keep (fun j z1 z2 => wP_off e21 hl20 (by omega))
  have fr21 : ∀ j, j < 0 → h21[j]? = h[j]? := fun j z1 => (wP_off e21 hl20 (by omega)).trans (fr20 j z1)
  have hl21 : h21.length = 52 := by have z9 := wP_len e21 hl20; omega
  refine w_dup d_CP_init_75 rfl ?_
  refine w_callI (q := 51) (as := []) (st := [.ref 51, .ref 0]) d_CP_init_76 yM_MS_init rfl rfl l_CP_22 iM_MS_init rfl rfl (m_MS_init hl21 c21) (by decide) (by decide) (by decide) (by decide) (Nat.le_of_ble_eq_true rfl) ?_
  rintro _ h22 ⟨rfl, hm22, pMS22, g22⟩
  have hl22 : h22.length = 54 := by omega
  refine w_eq (nc' := 53) (u' := 5036) (st' := [.ref 51, .ref 0]) rfl ?_
  have hc_22 := (g22 0 (by omega)).trans hc_21
  have c4_22 := (g22 3 (by omega)).trans c4_21
  have pCR2_22 := pCR2_21.keep (fun j z1 z2 => g22 j (by omega))
  have pMS7_22 := pMS7_21.keep (fun j z1 z2 => g22 j (by omega))
  have pMS10_22 := pMS10_21.keep (fun j z1 z2 => g22 j (by omega))
  have pMS13_22 := pMS13_21.keep (fun j z1 z2 => g22 j (by omega))
  have pPR16_22 := pPR16_21.keep (fun j z1 z2 => g22 j (by omega))
  have pPW19_22 := pPW19_21.keep (fun j z1 z2 => g22 j (by omega))
  have fr22 : ∀ j, j < 0 → h22[j]? = h[j]? := fun j z1 => (g22 j (by omega)).trans (fr21 j z1)
  refine w_putF d_CP_init_79 f_CP_37 (by decide +kernel) rfl (nnf (by decide +kernel)) hc_22 rfl rfl rfl ?_
  refine w_nm (fun h23 e23 => ?_)
  have hc_23 := wS_eq e23 hc_22
  have c4_23 := wS_ne e23 (by omega) c4_22
  have hl23 := wS_len e23 hl22
  have pCR2_23 := pCR2_22.keep (fun j z1 z2 => wS_off e23 (by omega))
  have pMS7_23 := pMS7_22.keep (fun j z1 z2 => wS_off e23 (by omega))
  have pMS10_23 := pMS10_22.keep (fun j z1 z2 => wS_off e23 (by omega))
  have pMS13_23 := pMS13_22.keep (fun j z1 z2 => wS_off e23 (by omega))
  have pPR16_23 := pPR16_22.keep (fun j z1 z2 => wS_off e23 (by omega))
  have pPW19_23 := pPW19_22.keep (fun j z1 z2 => wS_off e23 (by omega))
  have pMS22_23 := pMS22.keep (fun j z1 z2 => wS_off e23 (by omega))
  have fr23 : ∀ j, j < 0 → h23[j]? = h[j]? := fun j z1 => (wS_off e23 (by omega)).trans (fr22 j z1)
  refine w_aload_n d_CP_init_82 rfl rfl ?_
  refine w_new (n := 4) d_CP_init_83 n_CP_16 (fun r hr => by cases hr; rfl) (by decide) (by decide) ?_
  refine w_nm (fun h24 e24 => ?_)
  refine w_eq (nc' := 54) (u' := 5040) (st' := [.ref 54, .ref 0]) (by rw [hl23]) ?_
  have hc_24 := wP_old e24 hc_23
  have c4_24 := wP_old e24 c4_23
  have c24 := wP_new e24 hl23
  rw [wdf_1] at c24
  have pCR2_24 := pCR2_23.keep (fun j z1 z2 => wP_off e24 hl23 (by omega))
  have pMS7_24 := pMS7_23.keep (fun j z1 z2 => wP_off e24 hl23 (by omega))
  have pMS10_24 := pMS10_23.keep (fun j z1 z2 => wP_off e24 hl23 (by omega))
  have pMS13_24 := pMS13_23.keep (fun j z1 z2 => wP_off e24 hl23 (by omega))
  have pPR16_24 := pPR16_23.keep (fun j z1 z2 => wP_off e24 hl23 (by omega))
  have pPW19_24 := pPW19_23.keep (fun j z1 z2 => wP_off e24 hl23 (by omega))
  have pMS22_24 := pMS22_23.keep (fun j z1 z2 => wP_off e24 hl23 (by omega))
  have fr24 : ∀ j, j < 0 → h24[j]? = h[j]? := fun j z1 => (wP_off e24 hl23 (by omega)).trans (fr23 j z1)
  have hl24 : h24.length = 55 := by have z9 := wP_len e24 hl23; omega
  refine w_dup d_CP_init_86 rfl ?_
  refine w_callI (q := 54) (as := []) (st := [.ref 54, .ref 0]) d_CP_init_87 yM_MS_init rfl rfl l_CP_22 iM_MS_init rfl rfl (m_MS_init hl24 c24) (by decide) (by decide) (by decide) (by decide) (Nat.le_of_ble_eq_true rfl) ?_
  rintro _ h25 ⟨rfl, hm25, pMS25, g25⟩
  have hl25 : h25.length = 57 := by omega
  refine w_eq (nc' := 56) (u' := 5456) (st' := [.ref 54, .ref 0]) rfl ?_
  have hc_25 := (g25 0 (by omega)).trans hc_24
  have c4_25 := (g25 3 (by omega)).trans c4_24
  have pCR2_25 := pCR2_24.keep (fun j z1 z2 => g25 j (by omega))
  have pMS7_25 := pMS7_24.keep (fun j z1 z2 => g25 j (by omega))
  have pMS10_25 := pMS10_24.keep (fun j z1 z2 => g25 j (by omega))
  have pMS13_25 := pMS13_24.keep (fun j z1 z2 => g25 j (by omega))
  have pPR16_25 := pPR16_24.keep (fun j z1 z2 => g25 j (by omega))
  have pPW19_25 := pPW19_24.keep (fun j z1 z2 => g25 j (by omega))
  have pMS22_25 := pMS22_24.keep (fun j z1 z2 => g25 j (by omega))
  have fr25 : ∀ j, j < 0 → h25[j]? = h[j]? := fun j z1 => (g25 j (by omega)).trans (fr24 j z1)
  refine w_put d_CP_init_90 f_CP_41 rfl hc_25 rfl rfl rfl ?_
  refine w_nm (fun h26 e26 => ?_)
  have hc_26 := wS_eq e26 hc_25
  have c4_26 := wS_ne e26 (by omega) c4_25
  have hl26 := wS_len e26 hl25
  have pCR2_26 := pCR2_25.keep (fun j z1 z2 => wS_off e26 (by omega))
  have pMS7_26 := pMS7_25.keep (fun j z1 z2 => wS_off e26 (by omega))
  have pMS10_26 := pMS10_25.keep (fun j z1 z2 => wS_off e26 (by omega))
  have pMS13_26 := pMS13_25.keep (fun j z1 z2 => wS_off e26 (by omega))
  have pPR16_26 := pPR16_25.keep (fun j z1 z2 => wS_off e26 (by omega))
  have pPW19_26 := pPW19_25.keep (fun j z1 z2 => wS_off e26 (by omega))
  have pMS22_26 := pMS22_25.keep (fun j z1 z2 => wS_off e26 (by omega))
  have pMS25_26 := pMS25.keep (fun j z1 z2 => wS_off e26 (by omega))
  have fr26 : ∀ j, j < 0 → h26[j]? = h[j]? := fun j z1 => (wS_off e26 (by omega)).trans (fr25 j z1)
  rw [← hEN]
  refine w_vret d_CP_init_93 rfl ?_
  refine ⟨rfl, hl26, ⟨54, [], [], (fun k => 4 + 3 * k), hc_26, pCR2_26, ⟨_, c4_26, fun k hk => ?_⟩, fun k hk => ?_, pMS25_26, ⟨_, _, pMS22_26⟩, ⟨_, pPW19_26⟩, ⟨_, _, _, _, _, _, _, _, pPR16_26⟩, fun k hk => ?_, Or.inr (Or.inr (Or.inr rfl)), fun k hk => (by dsimp only; omega), fun i j h1 h2 h3 => (by dsimp only; omega)⟩, fr26⟩
  · rcases k with _ | _ | _ | k <;> first | rfl | omega
  · rcases k with _ | _ | _ | k
    · exact pMS7_26
    · exact pMS10_26
    · exact pMS13_26
    · omega
  · show P2 (4 + 3 * k)
    unfold P2
    omega
end IN1
