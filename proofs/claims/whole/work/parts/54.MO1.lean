/-! the reference's sets: written by wip/gen/mo1.py -/
def mS (ef cf : Nat → Int32) (sf : Nat → Int64) (nf : Nat → Int32) (j : Nat) (E S : List Nat) : Prop := cf j = nI E.length ∧ nf j = nI S.length ∧ E.length ≤ 420 ∧ S.length ≤ 20 ∧ (∀ i x, E[i]? = some x → ef (420 * j + i) = nI x) ∧ ∀ i x, S[i]? = some x → sf (20 * j + i) = lN (x - 4398048608256)
/-- the twelve sets -/
def mE (h : wH) (EE SS : Nat → List Nat) : Prop := ∃ (ef cf : Nat → Int32) (sf : Nat → Int64) (nf : Nat → Int32), h[59]? = some (.inl (0, 5040, .inl ef)) ∧ h[60]? = some (.inl (0, 12, .inl cf)) ∧ h[61]? = some (.inl (1, 240, .inr (.inl sf))) ∧ h[62]? = some (.inl (0, 12, .inl nf)) ∧ ∀ j, j < 12 → mS ef cf sf nf j (EE j) (SS j)
theorem mE.off {h h' : wH} {p n : Nat} {EE SS : Nat → List Nat} (a : mE h EE SS) (c : wOff h h' p n) (hd : p + n ≤ 59 ∨ 63 ≤ p) : mE h' EE SS := by
  obtain ⟨ef, cf, sf, nf, h1, h2, h3, h4, h5⟩ := a
  exact ⟨ef, cf, sf, nf, (c _ (by omega)).trans h1, (c _ (by omega)).trans h2, (c _ (by omega)).trans h3, (c _ (by omega)).trans h4, h5⟩
theorem mS.keep {ef ef' cf cf' nf nf' : Nat → Int32} {sf sf' : Nat → Int64} {j : Nat} {E S : List Nat} (a : mS ef cf sf nf j E S) (h1 : ∀ i, i < 420 → ef' (420 * j + i) = ef (420 * j + i)) (h2 : cf' j = cf j) (h3 : ∀ i, i < 20 → sf' (20 * j + i) = sf (20 * j + i)) (h4 : nf' j = nf j) : mS ef' cf' sf' nf' j E S := by
  obtain ⟨a1, a2, a3, a4, a5, a6⟩ := a
  refine ⟨h2.trans a1, h4.trans a2, a3, a4, fun i x hx => ?_, fun i x hx => ?_⟩
  · have := (List.getElem?_eq_some_iff.mp hx).1
    exact (h1 i (by omega)).trans (a5 i x hx)
  · have := (List.getElem?_eq_some_iff.mp hx).1
    exact (h3 i (by omega)).trans (a6 i x hx)
theorem upd_eq {f : Nat → Int32} {k : Nat} {x : Int32} : upd f k x k = x := by simp [upd]
theorem upd_ne {f : Nat → Int32} {k j : Nat} {x : Int32} (h : j ≠ k) : upd f k x j = f j := by simp [upd, h]
theorem updL_eq {f : Nat → Int64} {k : Nat} {x : Int64} : vp_updL f k x k = x := by simp [vp_updL]
theorem updL_ne {f : Nat → Int64} {k j : Nat} {x : Int64} (h : j ≠ k) : vp_updL f k x j = f j := by simp [vp_updL, h]
theorem slE {i j a b : Nat} (h : i ≠ j) (ha : a < 420) (hb : b < 420) : 420 * i + a ≠ 420 * j + b := by omega
theorem slS {i j a b : Nat} (h : i ≠ j) (ha : a < 20) (hb : b < 20) : 20 * i + a ≠ 20 * j + b := by omega
theorem eMem_sn {E : List Nat} {i y c : Nat} (hy : E[i]? = some y) : eMem (E.take (i + 1)) c = (if y ≤ c then !(eMem (E.take i) c) else eMem (E.take i) c) := by
  rw [eTake_succ hy]
  unfold eMem
  rw [eCnt_append, eCnt_cons, eCnt_nil]
  split
  · have : (eCnt (E.take i) c + (1 + 0)) % 2 = 1 ↔ ¬ eCnt (E.take i) c % 2 = 1 := by omega
    by_cases hz : eCnt (E.take i) c % 2 = 1
    · rw [show (eCnt (E.take i) c + (1 + 0)) % 2 = 0 by omega, hz]; rfl
    · rw [show (eCnt (E.take i) c + (1 + 0)) % 2 = 1 by omega, show eCnt (E.take i) c % 2 = 0 by omega]; rfl
  · rfl
/-- the least member from lo on, if it lies below m -/
def mn (lo : Nat) : List Nat → Nat → Nat
  | [], m => m
  | e :: l, m => mn lo l (if lo ≤ e ∧ e < m then e else m)
theorem mn_append (lo : Nat) : ∀ (l l' : List Nat) (m : Nat), mn lo (l ++ l') m = mn lo l' (mn lo l m)
  | [], _, _ => rfl
  | e :: l, l', m => mn_append lo l l' _
theorem mn_spec (lo : Nat) : ∀ (l : List Nat) (m : Nat), mn lo l m ≤ m ∧ (∀ e ∈ l, lo ≤ e → mn lo l m ≤ e) ∧ (mn lo l m = m ∨ (mn lo l m ∈ l ∧ lo ≤ mn lo l m))
  | [], m => ⟨Nat.le_refl _, fun e he => (by cases he), Or.inl rfl⟩
  | a :: l, m => by
    have ih := mn_spec lo l (if lo ≤ a ∧ a < m then a else m)
    unfold mn
    split at ih
    · rename_i hc
      rw [if_pos hc]
      refine ⟨by omega, fun e he hl => ?_, ?_⟩
      · rcases List.mem_cons.mp he with rfl | he
        · exact ih.1
        · exact ih.2.1 e he hl
      · rcases ih.2.2 with z | z
        · exact Or.inr ⟨by rw [z]; exact List.mem_cons_self .., by omega⟩
        · exact Or.inr ⟨List.mem_cons_of_mem _ z.1, z.2⟩
    · rename_i hc
      rw [if_neg hc]
      refine ⟨ih.1, fun e he hl => ?_, ?_⟩
      · rcases List.mem_cons.mp he with rfl | he
        · have := ih.1
          omega
        · exact ih.2.1 e he hl
      · rcases ih.2.2 with z | z
        · exact Or.inl z
        · exact Or.inr ⟨List.mem_cons_of_mem _ z.1, z.2⟩
theorem mn_sn {lo : Nat} {E : List Nat} {i y m : Nat} (hy : E[i]? = some y) : mn lo (E.take (i + 1)) m = (if lo ≤ y ∧ y < mn lo (E.take i) m then y else mn lo (E.take i) m) := by
  rw [eTake_succ hy, mn_append]
  rfl
def nxE (L R : List Nat) (lo : Nat) : Nat := mn lo R (mn lo L 1114113)
theorem sOk_k0 {y : Nat} (h : sOk y) : 4398048608256 ≤ y := by
  obtain ⟨a, b, t, ha, hb, ht, rfl⟩ := h
  unfold kOf
  omega
theorem k0_eq {x y : Nat} (hx : sOk x) (hy : sOk y) : lN (x - 4398048608256) = lN (y - 4398048608256) ↔ x = y := by
  have h1 := sOk_lt hx
  have h2 := sOk_lt hy
  have h3 := sOk_k0 hx
  have h4 := sOk_k0 hy
  constructor
  · intro h
    have : (lN (x - 4398048608256)).toBitVec.toNat = (lN (y - 4398048608256)).toBitVec.toNat := by rw [h]
    rw [wb_tn (by omega), wb_tn (by omega)] at this
    omega
  · intro h; rw [h]
section MO1
variable {X : wX}
set_option maxHeartbeats 4000000 in
set_option maxRecDepth 100000 in
theorem m_MO_regG {h : wH} {r : Nat} (hr : r < 3) : PM X M_MO_register 0 0 0 [.int (nI r)] h (fun z h' => z = some (.int (nI 1)) ∧ h' = h) := by
  refine PM.at (pl := [some (.int (nI r))]) rfl rfl (by simp [wle, wen]) ?_
  generalize hEN : wEm X 0 0 _ = EN
  refine w_iload_n d_MO_register_0 rfl ?_
  refine w_if_lt (tgt := 13) d_MO_register_1 rfl (fun z => absurd z (nI_pos (by omega))) (fun _ => ?_)
  refine w_iload_n d_MO_register_4 rfl ?_
  refine w_iconst (v := nI 2) d_MO_register_5 (by decide) ?_
  refine w_icmp_gt (tgt := 13) d_MO_register_6 rfl (fun z => absurd z (nI_nlt (by omega) (by decide))) (fun _ => ?_)
  refine w_iconst (v := nI 1) d_MO_register_9 (by decide) ?_
  refine w_goto (tgt := 14) d_MO_register_10 rfl ?_
  rw [← hEN]
  refine w_zret d_MO_register_14 rfl (by first | exact Or.inl rfl | exact Or.inr rfl) ?_
  exact ⟨rfl, rfl⟩
set_option maxHeartbeats 4000000 in
set_option maxRecDepth 100000 in
theorem m_MO_regB {h : wH} {x : Int32} (hx : ¬ (0 ≤ x ∧ x < nI 3)) : PM X M_MO_register 0 0 0 [.int (x)] h (fun z h' => z = some (.int (nI 0)) ∧ h' = h) := by
  refine PM.at (pl := [some (.int (x))]) rfl rfl (by simp [wle, wen]) ?_
  generalize hEN : wEm X 0 0 _ = EN
  refine w_iload_n d_MO_register_0 rfl ?_
  refine w_if_lt (tgt := 13) d_MO_register_1 rfl (fun c1 => ?_) (fun c1 => ?_)
  · refine w_iconst (v := nI 0) d_MO_register_13 (by decide) ?_
    rw [← hEN]
    refine w_zret d_MO_register_14 rfl (by first | exact Or.inl rfl | exact Or.inr rfl) ?_
    exact ⟨rfl, rfl⟩
  · refine w_iload_n d_MO_register_4 rfl ?_
    refine w_iconst (v := nI 2) d_MO_register_5 (by decide) ?_
    refine w_icmp_gt (tgt := 13) d_MO_register_6 rfl (fun c6 => ?_) (fun c6 => ?_)
    · refine w_iconst (v := nI 0) d_MO_register_13 (by decide) ?_
      rw [← hEN]
      refine w_zret d_MO_register_14 rfl (by first | exact Or.inl rfl | exact Or.inr rfl) ?_
      exact ⟨rfl, rfl⟩
    · obtain ⟨a, ha, rfl⟩ := nI_of c1
      exact absurd ⟨Int32.not_lt.mp c1, nI_lt (by have h9 : ¬ 2 < a := fun z => c6 ((nI_ltI (a := 2) (b := a) (by decide) ha).mpr z); omega) (by decide)⟩ hx
set_option maxHeartbeats 4000000 in
set_option maxRecDepth 100000 in
theorem m_MO_empty {h : wH} {sz ap gd dp wr fi : Int32} (hx : h[57]? = some (.inr (7, [.ref 58, .int (sz), .ref 59, .ref 60, .ref 61, .ref 62, .int (ap), .int (gd), .int (dp), .ref 63, .ref 64, .ref 65, .ref 66, .int (wr), .int (fi), .ref 67]))) {EE SS : Nat → List Nat} (hE : mE h EE SS) {t : Nat} (ht : t < 12) : PM X M_MO_empty 0 0 0 [.ref 57, .int (nI t)] h (fun z h' => z = none ∧ mE h' (va_up EE t []) (va_up SS t []) ∧ wOff h h' 59 4) := by
  obtain ⟨ef, cf, sf, nf, ha, hb, hc, hd, hs⟩ := id hE
  refine PM.at (pl := [some (.ref 57), some (.int (nI t))]) rfl rfl (by simp [wle, wen]) ?_
  generalize hEN : wEm X 0 0 _ = EN
  refine w_aload_n d_MO_empty_0 rfl rfl ?_
  refine w_get d_MO_empty_1 f_MO_16 hx rfl ?_
  refine w_iload_n d_MO_empty_4 rfl ?_
  refine w_iconst (v := nI 0) d_MO_empty_5 (by decide) ?_
  refine w_iast d_MO_empty_6 hb (vp_in_nI (by omega) (by decide)) ?_
  refine w_nm (fun h1 e1 => ?_)
  have hx_1 := wS_ne e1 (by omega) hx
  have ha_1 := wS_ne e1 (by omega) ha
  have hb_1 := wS_eq e1 hb
  have hc_1 := wS_ne e1 (by omega) hc
  have hd_1 := wS_ne e1 (by omega) hd
  refine w_aload_n d_MO_empty_7 rfl rfl ?_
  refine w_get d_MO_empty_8 f_MO_23 hx_1 rfl ?_
  refine w_iload_n d_MO_empty_11 rfl ?_
  refine w_iconst (v := nI 0) d_MO_empty_12 (by decide) ?_
  refine w_iast d_MO_empty_13 hd_1 (vp_in_nI (by omega) (by decide)) ?_
  refine w_nm (fun h2 e2 => ?_)
  have hx_2 := wS_ne e2 (by omega) hx_1
  have ha_2 := wS_ne e2 (by omega) ha_1
  have hb_2 := wS_ne e2 (by omega) hb_1
  have hc_2 := wS_ne e2 (by omega) hc_1
  have hd_2 := wS_eq e2 hd_1
  rw [← hEN]
  refine w_vret d_MO_empty_14 rfl ?_
  refine ⟨rfl, ⟨_, _, _, _, ha_2, hb_2, hc_2, hd_2, fun j hj => ?_⟩, fun k hk => by rw [wS_off e2 (by omega), wS_off e1 (by omega)]⟩
  rw [nI_clamp (by omega)]
  by_cases hjt : j = t
  · subst hjt
    rw [va_up_self, va_up_self]
    exact ⟨upd_eq, upd_eq, Nat.zero_le _, Nat.zero_le _, fun i x hx => by simp at hx, fun i x hx => by simp at hx⟩
  · rw [va_up_ne _ _ hjt, va_up_ne _ _ hjt]
    exact (hs j hj).keep (fun _ _ => rfl) (upd_ne hjt) (fun _ _ => rfl) (upd_ne hjt)
set_option maxHeartbeats 4000000 in
set_option maxRecDepth 100000 in
theorem m_MO_member {h : wH} {sz ap gd dp wr fi : Int32} (hx : h[57]? = some (.inr (7, [.ref 58, .int (sz), .ref 59, .ref 60, .ref 61, .ref 62, .int (ap), .int (gd), .int (dp), .ref 63, .ref 64, .ref 65, .ref 66, .int (wr), .int (fi), .ref 67]))) {EE SS : Nat → List Nat} (hE : mE h EE SS) {t c : Nat} (ht : t < 12) (hcc : c < 2 ^ 31) (h31 : ∀ y ∈ EE t, y < 2 ^ 31) : PM X M_MO_member 0 0 0 [.ref 57, .int (nI t), .int (nI c)] h (fun z h' => z = some (.int (bI (eMem (EE t) c))) ∧ h' = h) := by
  obtain ⟨ef, cf, sf, nf, ha, hb, hc, hd, hs⟩ := id hE
  obtain ⟨s1, s2, s3, s4, s5, s6⟩ := hs t ht
  refine PM.at (pl := [some (.ref 57), some (.int (nI t)), some (.int (nI c)), none, none]) rfl rfl (by simp [wle, wen]) ?_
  generalize hEN : wEm X 0 0 _ = EN
  have L : ∀ (n : Nat) (i : Nat), ((EE t).length - i < n) → (i ≤ (EE t).length) → WP X M_MO_member (wR 0 0 0) 0 EN 0 0 5 [some (.ref 57), some (.int (nI t)), some (.int (nI c)), some (.int (bI (eMem ((EE t).take i) c))), some (.int (nI i))] [] h := by
    intro n
    induction n with
    | zero => intro i k1 k2; omega
    | succ n ih =>
      intro i k1 k2
      refine w_iload d_MO_member_5 rfl ?_
      refine w_aload_n d_MO_member_7 rfl rfl ?_
      refine w_get d_MO_member_8 f_MO_16 hx rfl ?_
      refine w_iload_n d_MO_member_11 rfl ?_
      refine w_iald d_MO_member_12 hb (vp_in_nI (by omega) (by decide)) ?_
      refine w_topi (y := nI (EE t).length) (by rw [nI_clamp (by omega)]; exact s1) ?_
      refine w_icmp_ge (tgt := 53) d_MO_member_13 rfl (fun c13 => ?_) (fun c13 => ?_)
      · have c13 := (nI_leI (a := (EE t).length) (b := i) (by omega) (by omega)).mp c13
        refine w_iload_n d_MO_member_53 rfl ?_
        rw [← hEN]
        refine w_zret d_MO_member_54 rfl (bI_01 _) ?_
        rw [List.take_of_length_le c13]
        exact ⟨rfl, rfl⟩
      · have c13 : i < (EE t).length := Nat.not_le.mp (fun z => c13 ((nI_leI (a := (EE t).length) (b := i) (by omega) (by omega)).mpr z))
        obtain ⟨y, hy⟩ := t_at c13
        have hy31 := h31 y (List.mem_of_getElem? hy)
        have hsn := eMem_sn (c := c) hy
        refine w_aload_n d_MO_member_16 rfl rfl ?_
        refine w_get d_MO_member_17 f_MO_13 hx rfl ?_
        refine w_sipush (v := nI 420) d_MO_member_20 (by decide) ?_
        refine w_iload_n d_MO_member_23 rfl ?_
        refine w_imul d_MO_member_24 ?_
        refine w_topi (y := nI (420 * t)) (pk_mul 420 t) ?_
        refine w_iload d_MO_member_25 rfl ?_
        refine w_iadd d_MO_member_27 ?_
        refine w_topi (y := nI (420 * t + i)) (nI_add _ _) ?_
        refine w_iald d_MO_member_28 ha (vp_in_nI (by omega) (by decide)) ?_
        refine w_topi (y := nI y) (by rw [nI_clamp (by omega)]; exact s5 _ _ hy) ?_
        refine w_iload_n d_MO_member_29 rfl ?_
        suffices J46 : WP X M_MO_member (wR 0 0 0) 0 EN 0 0 46 [some (.ref 57), some (.int (nI t)), some (.int (nI c)), some (.int (bI (eMem ((EE t).take i) c))), some (.int (nI i))] [.int (bI (eMem ((EE t).take (i + 1)) c))] h by
          refine w_icmp_gt (tgt := 45) d_MO_member_30 rfl (fun c30 => ?_) (fun c30 => ?_)
          · have c30 : ¬ y ≤ c := Nat.not_le.mpr ((nI_ltI (a := c) (b := y) hcc hy31).mp c30)
            rw [if_neg c30] at hsn
            refine w_iload_n d_MO_member_45 rfl ?_
            rw [hsn] at J46; exact J46
          · have c30 : y ≤ c := Nat.not_lt.mp (fun z => c30 ((nI_ltI (a := c) (b := y) hcc hy31).mpr z))
            rw [if_pos c30] at hsn
            refine w_iload_n d_MO_member_33 rfl ?_
            refine w_if_ne (tgt := 41) d_MO_member_34 rfl (fun c34 => ?_) (fun c34 => ?_)
            · refine w_iconst (v := nI 0) d_MO_member_41 (by decide) ?_
              refine w_goto (tgt := 46) d_MO_member_42 rfl ?_
              rw [bI_t c34] at hsn; rw [hsn] at J46; exact J46
            · refine w_iconst (v := nI 1) d_MO_member_37 (by decide) ?_
              refine w_goto (tgt := 46) d_MO_member_38 rfl ?_
              rw [bI_f c34] at hsn; rw [hsn] at J46; exact J46
        refine w_istore_n d_MO_member_46 (by decide) ?_
        refine w_pl (pl' := [some (.ref 57), some (.int (nI t)), some (.int (nI c)), some (.int (bI (eMem ((EE t).take (i + 1)) c))), some (.int (nI i))]) rfl ?_
        refine w_iinc (v := nI (i + 1)) d_MO_member_47 rfl (nI_1 _) (by decide) ?_
        refine w_pl (pl' := [some (.ref 57), some (.int (nI t)), some (.int (nI c)), some (.int (bI (eMem ((EE t).take (i + 1)) c))), some (.int (nI (i + 1)))]) rfl ?_
        refine w_goto (tgt := 5) d_MO_member_50 rfl ?_
        exact ih (i + 1) (by omega) (by omega)
  refine w_iconst (v := nI 0) d_MO_member_0 (by decide) ?_
  refine w_istore_n d_MO_member_1 (by decide) ?_
  refine w_pl (pl' := [some (.ref 57), some (.int (nI t)), some (.int (nI c)), some (.int (nI 0)), none]) rfl ?_
  refine w_iconst (v := nI 0) d_MO_member_2 (by decide) ?_
  refine w_istore d_MO_member_3 (by decide) ?_
  refine w_pl (pl' := [some (.ref 57), some (.int (nI t)), some (.int (nI c)), some (.int (nI 0)), some (.int (nI 0))]) rfl ?_
  exact L ((EE t).length + 1) 0 (by omega) (Nat.zero_le _)
set_option maxHeartbeats 4000000 in
set_option maxRecDepth 100000 in
theorem m_MO_strMember {h : wH} {sz ap gd dp wr fi : Int32} (hx : h[57]? = some (.inr (7, [.ref 58, .int (sz), .ref 59, .ref 60, .ref 61, .ref 62, .int (ap), .int (gd), .int (dp), .ref 63, .ref 64, .ref 65, .ref 66, .int (wr), .int (fi), .ref 67]))) {EE SS : Nat → List Nat} (hE : mE h EE SS) {t s : Nat} (ht : t < 12) (hsk : sOk s) (hok : ∀ y ∈ SS t, sOk y) : PM X M_MO_stringMember 0 0 0 [.ref 57, .int (nI t), .long (lN (s - 4398048608256))] h (fun z h' => z = some (.int (bI (decide (s ∈ SS t)))) ∧ h' = h) := by
  obtain ⟨ef, cf, sf, nf, ha, hb, hc, hd, hs⟩ := id hE
  obtain ⟨s1, s2, s3, s4, s5, s6⟩ := hs t ht
  refine PM.at (pl := [some (.ref 57), some (.int (nI t)), some (.long (lN (s - 4398048608256))), none, none, none]) rfl rfl (by simp [wle, wen]) ?_
  generalize hEN : wEm X 0 0 _ = EN
  have L : ∀ (n : Nat) (i : Nat), ((SS t).length - i < n) → (i ≤ (SS t).length) → WP X M_MO_stringMember (wR 0 0 0) 0 EN 0 0 6 [some (.ref 57), some (.int (nI t)), some (.long (lN (s - 4398048608256))), none, some (.int (bI (decide (s ∈ (SS t).take i)))), some (.int (nI i))] [] h := by
    intro n
    induction n with
    | zero => intro i k1 k2; omega
    | succ n ih =>
      intro i k1 k2
      refine w_iload d_MO_stringMember_6 rfl ?_
      refine w_aload_n d_MO_stringMember_8 rfl rfl ?_
      refine w_get d_MO_stringMember_9 f_MO_23 hx rfl ?_
      refine w_iload_n d_MO_stringMember_12 rfl ?_
      refine w_iald d_MO_stringMember_13 hd (vp_in_nI (by omega) (by decide)) ?_
      refine w_topi (y := nI (SS t).length) (by rw [nI_clamp (by omega)]; exact s2) ?_
      refine w_icmp_ge (tgt := 52) d_MO_stringMember_14 rfl (fun c14 => ?_) (fun c14 => ?_)
      · have c14 := (nI_leI (a := (SS t).length) (b := i) (by omega) (by omega)).mp c14
        refine w_iload d_MO_stringMember_52 rfl ?_
        rw [← hEN]
        refine w_zret d_MO_stringMember_54 rfl (bI_01 _) ?_
        rw [List.take_of_length_le c14]
        exact ⟨rfl, rfl⟩
      · have c14 : i < (SS t).length := Nat.not_le.mp (fun z => c14 ((nI_leI (a := (SS t).length) (b := i) (by omega) (by omega)).mpr z))
        obtain ⟨y, hy⟩ := t_at c14
        have hyk := hok y (List.mem_of_getElem? hy)
        have hsn : s ∈ (SS t).take (i + 1) ↔ (s ∈ (SS t).take i ∨ s = y) := by rw [eTake_succ hy, List.mem_append, List.mem_singleton]
        refine w_iload d_MO_stringMember_17 rfl ?_
        suffices J44 : WP X M_MO_stringMember (wR 0 0 0) 0 EN 0 0 44 [some (.ref 57), some (.int (nI t)), some (.long (lN (s - 4398048608256))), none, some (.int (bI (decide (s ∈ (SS t).take i)))), some (.int (nI i))] [.int (bI (decide (s ∈ (SS t).take (i + 1))))] h by
          refine w_if_ne (tgt := 39) d_MO_stringMember_19 rfl (fun c19 => ?_) (fun c19 => ?_)
          · have c19 : s ∈ (SS t).take i := of_decide_eq_true (bI_t c19)
            refine w_iconst (v := nI 1) d_MO_stringMember_39 (by decide) ?_
            refine w_goto (tgt := 44) d_MO_stringMember_40 rfl ?_
            rw [decide_eq_true (hsn.mpr (Or.inl c19))] at J44; exact J44
          · have c19 : ¬ s ∈ (SS t).take i := of_decide_eq_false (bI_f c19)
            refine w_aload_n d_MO_stringMember_22 rfl rfl ?_
            refine w_get d_MO_stringMember_23 f_MO_19 hx rfl ?_
            refine w_bipush (v := nI 20) d_MO_stringMember_26 (by decide) ?_
            refine w_iload_n d_MO_stringMember_28 rfl ?_
            refine w_imul d_MO_stringMember_29 ?_
            refine w_topi (y := nI (20 * t)) (pk_mul 20 t) ?_
            refine w_iload d_MO_stringMember_30 rfl ?_
            refine w_iadd d_MO_stringMember_32 ?_
            refine w_topi (y := nI (20 * t + i)) (nI_add _ _) ?_
            refine w_lald d_MO_stringMember_33 hc (vp_in_nI (by omega) (by decide)) ?_
            refine w_topl (y := lN (y - 4398048608256)) (by rw [nI_clamp (by omega)]; exact s6 _ _ hy) ?_
            refine w_lload_n d_MO_stringMember_34 rfl ?_
            refine w_lcmp d_MO_stringMember_35 ?_
            refine w_if_ne (tgt := 43) d_MO_stringMember_36 rfl (fun c36 => ?_) (fun c36 => ?_)
            · refine w_iconst (v := nI 0) d_MO_stringMember_43 (by decide) ?_
              rw [decide_eq_false (fun z => (hsn.mp z).elim c19 (fun e => c36 (by rw [(k0_eq hyk hsk).mpr e.symm]; exact lg_cmp_self _)))] at J44; exact J44
            · refine w_iconst (v := nI 1) d_MO_stringMember_39 (by decide) ?_
              refine w_goto (tgt := 44) d_MO_stringMember_40 rfl ?_
              rw [decide_eq_true (hsn.mpr (Or.inr ((k0_eq hyk hsk).mp (lg_cmp_0 c36)).symm))] at J44; exact J44
        refine w_istore d_MO_stringMember_44 (by decide) ?_
        refine w_pl (pl' := [some (.ref 57), some (.int (nI t)), some (.long (lN (s - 4398048608256))), none, some (.int (bI (decide (s ∈ (SS t).take (i + 1))))), some (.int (nI i))]) rfl ?_
        refine w_iinc (v := nI (i + 1)) d_MO_stringMember_46 rfl (nI_1 _) (by decide) ?_
        refine w_pl (pl' := [some (.ref 57), some (.int (nI t)), some (.long (lN (s - 4398048608256))), none, some (.int (bI (decide (s ∈ (SS t).take (i + 1))))), some (.int (nI (i + 1)))]) rfl ?_
        refine w_goto (tgt := 6) d_MO_stringMember_49 rfl ?_
        exact ih (i + 1) (by omega) (by omega)
  refine w_iconst (v := nI 0) d_MO_stringMember_0 (by decide) ?_
  refine w_istore d_MO_stringMember_1 (by decide) ?_
  refine w_pl (pl' := [some (.ref 57), some (.int (nI t)), some (.long (lN (s - 4398048608256))), none, some (.int (nI 0)), none]) rfl ?_
  refine w_iconst (v := nI 0) d_MO_stringMember_3 (by decide) ?_
  refine w_istore d_MO_stringMember_4 (by decide) ?_
  refine w_pl (pl' := [some (.ref 57), some (.int (nI t)), some (.long (lN (s - 4398048608256))), none, some (.int (nI 0)), some (.int (nI 0))]) rfl ?_
  exact L ((SS t).length + 1) 0 (by omega) (Nat.zero_le _)
set_option maxHeartbeats 4000000 in
set_option maxRecDepth 100000 in
theorem m_MO_nextEdge {h : wH} {sz ap gd dp wr fi : Int32} (hx : h[57]? = some (.inr (7, [.ref 58, .int (sz), .ref 59, .ref 60, .ref 61, .ref 62, .int (ap), .int (gd), .int (dp), .ref 63, .ref 64, .ref 65, .ref 66, .int (wr), .int (fi), .ref 67]))) {EE SS : Nat → List Nat} (hE : mE h EE SS) {t b lo : Nat} {x : Int32} (ht : t < 12) (hbb : b < 12) (hlo : ∀ e, e < 2 ^ 31 → (nI e ≤ x ↔ ¬ lo ≤ e)) (h31 : ∀ y ∈ EE t, y < 2 ^ 31) (h32 : ∀ y ∈ EE b, y < 2 ^ 31) : PM X M_MO_nextEdge 0 0 0 [.ref 57, .int (nI t), .int (nI b), .int (x)] h (fun z h' => z = some (.int (nI (nxE (EE t) (EE b) lo))) ∧ h' = h) := by
  obtain ⟨ef, cf, sf, nf, ha, hb, hc, hd, hs⟩ := id hE
  obtain ⟨s1, s2, s3, s4, s5, s6⟩ := hs t ht
  obtain ⟨t1, t2, t3, t4, t5, t6⟩ := hs b hbb
  refine PM.at (pl := [some (.ref 57), some (.int (nI t)), some (.int (nI b)), some (.int (x)), none, none, none]) rfl rfl (by simp [wle, wen]) ?_
  generalize hEN : wEm X 0 0 _ = EN
  have L2 : ∀ (n : Nat) (i : Nat), ((EE b).length - i < n) → (i ≤ (EE b).length) → WP X M_MO_nextEdge (wR 0 0 0) 0 EN 0 0 64 [some (.ref 57), some (.int (nI t)), some (.int (nI b)), some (.int (x)), some (.int (nI (mn lo ((EE b).take i) (mn lo (EE t) 1114113)))), some (.int (nI i)), none] [] h := by
    intro n
    induction n with
    | zero => intro i k1 k2; omega
    | succ n ih =>
      intro i k1 k2
      have hm0 : (mn lo (EE t) 1114113) ≤ 1114113 := (mn_spec lo (EE t) 1114113).1
      refine w_iload d_MO_nextEdge_64 rfl ?_
      refine w_aload_n d_MO_nextEdge_66 rfl rfl ?_
      refine w_get d_MO_nextEdge_67 f_MO_16 hx rfl ?_
      refine w_iload_n d_MO_nextEdge_70 rfl ?_
      refine w_iald d_MO_nextEdge_71 hb (vp_in_nI (by omega) (by decide)) ?_
      refine w_topi (y := nI (EE b).length) (by rw [nI_clamp (by omega)]; exact t1) ?_
      refine w_icmp_ge (tgt := 118) d_MO_nextEdge_72 rfl (fun c72 => ?_) (fun c72 => ?_)
      · have c72 := (nI_leI (a := (EE b).length) (b := i) (by omega) (by omega)).mp c72
        refine w_iload d_MO_nextEdge_118 rfl ?_
        rw [← hEN]
        refine w_iret d_MO_nextEdge_120 rfl ?_
        rw [List.take_of_length_le c72]
        exact ⟨rfl, rfl⟩
      · have c72 : i < (EE b).length := Nat.not_le.mp (fun z => c72 ((nI_leI (a := (EE b).length) (b := i) (by omega) (by omega)).mpr z))
        obtain ⟨y, hy⟩ := t_at c72
        have hy31 := h32 y (List.mem_of_getElem? hy)
        have hsn := mn_sn (lo := lo) (m := (mn lo (EE t) 1114113)) hy
        have hmm := (mn_spec lo ((EE b).take i) ((mn lo (EE t) 1114113))).1
        refine w_aload_n d_MO_nextEdge_75 rfl rfl ?_
        refine w_get d_MO_nextEdge_76 f_MO_13 hx rfl ?_
        refine w_sipush (v := nI 420) d_MO_nextEdge_79 (by decide) ?_
        refine w_iload_n d_MO_nextEdge_82 rfl ?_
        refine w_imul d_MO_nextEdge_83 ?_
        refine w_topi (y := nI (420 * b)) (pk_mul 420 b) ?_
        refine w_iload d_MO_nextEdge_84 rfl ?_
        refine w_iadd d_MO_nextEdge_86 ?_
        refine w_topi (y := nI (420 * b + i)) (nI_add _ _) ?_
        refine w_iald d_MO_nextEdge_87 ha (vp_in_nI (by omega) (by decide)) ?_
        refine w_topi (y := nI y) (by rw [nI_clamp (by omega)]; exact t5 _ _ hy) ?_
        refine w_istore d_MO_nextEdge_88 (by decide) ?_
        refine w_pl (pl' := [some (.ref 57), some (.int (nI t)), some (.int (nI b)), some (.int (x)), some (.int (nI (mn lo ((EE b).take i) (mn lo (EE t) 1114113)))), some (.int (nI i)), some (.int (nI y))]) rfl ?_
        refine w_iload d_MO_nextEdge_90 rfl ?_
        refine w_iload_n d_MO_nextEdge_92 rfl ?_
        suffices J110 : WP X M_MO_nextEdge (wR 0 0 0) 0 EN 0 0 110 [some (.ref 57), some (.int (nI t)), some (.int (nI b)), some (.int (x)), some (.int (nI (mn lo ((EE b).take i) (mn lo (EE t) 1114113)))), some (.int (nI i)), some (.int (nI y))] [.int (nI (mn lo ((EE b).take (i + 1)) (mn lo (EE t) 1114113)))] h by
          refine w_icmp_le (tgt := 108) d_MO_nextEdge_93 rfl (fun c93 => ?_) (fun c93 => ?_)
          · have c93 := (hlo y hy31).mp c93
            rw [if_neg (fun z => c93 z.1)] at hsn
            refine w_iload d_MO_nextEdge_108 rfl ?_
            rw [hsn] at J110; exact J110
          · have c93 : lo ≤ y := Decidable.byContradiction fun z => c93 ((hlo y hy31).mpr z)
            refine w_iload d_MO_nextEdge_96 rfl ?_
            refine w_iload d_MO_nextEdge_98 rfl ?_
            refine w_icmp_ge (tgt := 108) d_MO_nextEdge_100 rfl (fun c100 => ?_) (fun c100 => ?_)
            · have c100 := (nI_leI (by omega) hy31).mp c100
              rw [if_neg (fun z => by omega)] at hsn
              refine w_iload d_MO_nextEdge_108 rfl ?_
              rw [hsn] at J110; exact J110
            · have c100 : y < mn lo ((EE b).take i) (mn lo (EE t) 1114113) := Nat.not_le.mp (fun z => c100 ((nI_leI (by omega) hy31).mpr z))
              rw [if_pos ⟨c93, c100⟩] at hsn
              refine w_iload d_MO_nextEdge_103 rfl ?_
              refine w_goto (tgt := 110) d_MO_nextEdge_105 rfl ?_
              rw [hsn] at J110; exact J110
        refine w_istore d_MO_nextEdge_110 (by decide) ?_
        refine w_pl (pl' := [some (.ref 57), some (.int (nI t)), some (.int (nI b)), some (.int (x)), some (.int (nI (mn lo ((EE b).take (i + 1)) (mn lo (EE t) 1114113)))), some (.int (nI i)), some (.int (nI y))]) rfl ?_
        refine w_iinc (v := nI (i + 1)) d_MO_nextEdge_112 rfl (nI_1 _) (by decide) ?_
        refine w_pl (pl' := [some (.ref 57), some (.int (nI t)), some (.int (nI b)), some (.int (x)), some (.int (nI (mn lo ((EE b).take (i + 1)) (mn lo (EE t) 1114113)))), some (.int (nI (i + 1))), some (.int (nI y))]) rfl ?_
        refine w_goto (tgt := 64) d_MO_nextEdge_115 rfl ?_
        refine w_le (pl' := [some (.ref 57), some (.int (nI t)), some (.int (nI b)), some (.int (x)), some (.int (nI (mn lo ((EE b).take (i + 1)) (mn lo (EE t) 1114113)))), some (.int (nI (i + 1))), none]) ⟨rfl, rfl, rfl, rfl, rfl, rfl, trivial⟩ ?_
        exact ih (i + 1) (by omega) (by omega)
  have L1 : ∀ (n : Nat) (i : Nat), ((EE t).length - i < n) → (i ≤ (EE t).length) → WP X M_MO_nextEdge (wR 0 0 0) 0 EN 0 0 7 [some (.ref 57), some (.int (nI t)), some (.int (nI b)), some (.int (x)), some (.int (nI (mn lo ((EE t).take i) 1114113))), some (.int (nI i)), none] [] h := by
    intro n
    induction n with
    | zero => intro i k1 k2; omega
    | succ n ih =>
      intro i k1 k2
      have hm0 : 1114113 ≤ 1114113 := Nat.le_refl _
      refine w_iload d_MO_nextEdge_7 rfl ?_
      refine w_aload_n d_MO_nextEdge_9 rfl rfl ?_
      refine w_get d_MO_nextEdge_10 f_MO_16 hx rfl ?_
      refine w_iload_n d_MO_nextEdge_13 rfl ?_
      refine w_iald d_MO_nextEdge_14 hb (vp_in_nI (by omega) (by decide)) ?_
      refine w_topi (y := nI (EE t).length) (by rw [nI_clamp (by omega)]; exact s1) ?_
      refine w_icmp_ge (tgt := 61) d_MO_nextEdge_15 rfl (fun c15 => ?_) (fun c15 => ?_)
      · have c15 := (nI_leI (a := (EE t).length) (b := i) (by omega) (by omega)).mp c15
        refine w_iconst (v := nI 0) d_MO_nextEdge_61 (by decide) ?_
        refine w_istore d_MO_nextEdge_62 (by decide) ?_
        rw [List.take_of_length_le c15]
        refine w_le (pl' := [some (.ref 57), some (.int (nI t)), some (.int (nI b)), some (.int (x)), some (.int (nI (mn lo (EE t) 1114113))), some (.int (nI 0)), none]) ⟨rfl, rfl, rfl, rfl, rfl, rfl, trivial⟩ ?_
        exact L2 ((EE b).length + 1) 0 (by omega) (Nat.zero_le _)
      · have c15 : i < (EE t).length := Nat.not_le.mp (fun z => c15 ((nI_leI (a := (EE t).length) (b := i) (by omega) (by omega)).mpr z))
        obtain ⟨y, hy⟩ := t_at c15
        have hy31 := h31 y (List.mem_of_getElem? hy)
        have hsn := mn_sn (lo := lo) (m := 1114113) hy
        have hmm := (mn_spec lo ((EE t).take i) (1114113)).1
        refine w_aload_n d_MO_nextEdge_18 rfl rfl ?_
        refine w_get d_MO_nextEdge_19 f_MO_13 hx rfl ?_
        refine w_sipush (v := nI 420) d_MO_nextEdge_22 (by decide) ?_
        refine w_iload_n d_MO_nextEdge_25 rfl ?_
        refine w_imul d_MO_nextEdge_26 ?_
        refine w_topi (y := nI (420 * t)) (pk_mul 420 t) ?_
        refine w_iload d_MO_nextEdge_27 rfl ?_
        refine w_iadd d_MO_nextEdge_29 ?_
        refine w_topi (y := nI (420 * t + i)) (nI_add _ _) ?_
        refine w_iald d_MO_nextEdge_30 ha (vp_in_nI (by omega) (by decide)) ?_
        refine w_topi (y := nI y) (by rw [nI_clamp (by omega)]; exact s5 _ _ hy) ?_
        refine w_istore d_MO_nextEdge_31 (by decide) ?_
        refine w_pl (pl' := [some (.ref 57), some (.int (nI t)), some (.int (nI b)), some (.int (x)), some (.int (nI (mn lo ((EE t).take i) 1114113))), some (.int (nI i)), some (.int (nI y))]) rfl ?_
        refine w_iload d_MO_nextEdge_33 rfl ?_
        refine w_iload_n d_MO_nextEdge_35 rfl ?_
        suffices J53 : WP X M_MO_nextEdge (wR 0 0 0) 0 EN 0 0 53 [some (.ref 57), some (.int (nI t)), some (.int (nI b)), some (.int (x)), some (.int (nI (mn lo ((EE t).take i) 1114113))), some (.int (nI i)), some (.int (nI y))] [.int (nI (mn lo ((EE t).take (i + 1)) 1114113))] h by
          refine w_icmp_le (tgt := 51) d_MO_nextEdge_36 rfl (fun c36 => ?_) (fun c36 => ?_)
          · have c36 := (hlo y hy31).mp c36
            rw [if_neg (fun z => c36 z.1)] at hsn
            refine w_iload d_MO_nextEdge_51 rfl ?_
            rw [hsn] at J53; exact J53
          · have c36 : lo ≤ y := Decidable.byContradiction fun z => c36 ((hlo y hy31).mpr z)
            refine w_iload d_MO_nextEdge_39 rfl ?_
            refine w_iload d_MO_nextEdge_41 rfl ?_
            refine w_icmp_ge (tgt := 51) d_MO_nextEdge_43 rfl (fun c43 => ?_) (fun c43 => ?_)
            · have c43 := (nI_leI (by omega) hy31).mp c43
              rw [if_neg (fun z => by omega)] at hsn
              refine w_iload d_MO_nextEdge_51 rfl ?_
              rw [hsn] at J53; exact J53
            · have c43 : y < mn lo ((EE t).take i) 1114113 := Nat.not_le.mp (fun z => c43 ((nI_leI (by omega) hy31).mpr z))
              rw [if_pos ⟨c36, c43⟩] at hsn
              refine w_iload d_MO_nextEdge_46 rfl ?_
              refine w_goto (tgt := 53) d_MO_nextEdge_48 rfl ?_
              rw [hsn] at J53; exact J53
        refine w_istore d_MO_nextEdge_53 (by decide) ?_
        refine w_pl (pl' := [some (.ref 57), some (.int (nI t)), some (.int (nI b)), some (.int (x)), some (.int (nI (mn lo ((EE t).take (i + 1)) 1114113))), some (.int (nI i)), some (.int (nI y))]) rfl ?_
        refine w_iinc (v := nI (i + 1)) d_MO_nextEdge_55 rfl (nI_1 _) (by decide) ?_
        refine w_pl (pl' := [some (.ref 57), some (.int (nI t)), some (.int (nI b)), some (.int (x)), some (.int (nI (mn lo ((EE t).take (i + 1)) 1114113))), some (.int (nI (i + 1))), some (.int (nI y))]) rfl ?_
        refine w_goto (tgt := 7) d_MO_nextEdge_58 rfl ?_
        refine w_le (pl' := [some (.ref 57), some (.int (nI t)), some (.int (nI b)), some (.int (x)), some (.int (nI (mn lo ((EE t).take (i + 1)) 1114113))), some (.int (nI (i + 1))), none]) ⟨rfl, rfl, rfl, rfl, rfl, rfl, trivial⟩ ?_
        exact ih (i + 1) (by omega) (by omega)
  refine w_ldc (v := nI 1114113) d_MO_nextEdge_0 k_MO_47 ?_
  refine w_istore d_MO_nextEdge_2 (by decide) ?_
  refine w_pl (pl' := [some (.ref 57), some (.int (nI t)), some (.int (nI b)), some (.int (x)), some (.int (nI 1114113)), none, none]) rfl ?_
  refine w_iconst (v := nI 0) d_MO_nextEdge_4 (by decide) ?_
  refine w_istore d_MO_nextEdge_5 (by decide) ?_
  refine w_pl (pl' := [some (.ref 57), some (.int (nI t)), some (.int (nI b)), some (.int (x)), some (.int (nI 1114113)), some (.int (nI 0)), none]) rfl ?_
  exact L1 ((EE t).length + 1) 0 (by omega) (Nat.zero_le _)
set_option maxHeartbeats 4000000 in
set_option maxRecDepth 100000 in
theorem m_MO_decided_000 {h : wH} : PM X M_MO_decided 0 0 0 [.int (nI 0), .int (nI 0), .int (nI 0)] h (fun r h' => r = some (.int (bI (eDec 0 false false))) ∧ h' = h) := by
  refine PM.at (pl := [some (.int (nI 0)), some (.int (nI 0)), some (.int (nI 0))]) rfl rfl (by simp [wle, wen]) ?_
  generalize hEN : wEm X 0 0 _ = EN
  refine w_iload_n d_MO_decided_0 rfl ?_
  refine w_if_ne (tgt := 20) d_MO_decided_1 rfl (fun z => absurd (by decide) z) (fun _ => ?_)
  refine w_iload_n d_MO_decided_4 rfl ?_
  refine w_if_ne (tgt := 12) d_MO_decided_5 rfl (fun z => absurd (by decide) z) (fun _ => ?_)
  refine w_iload_n d_MO_decided_8 rfl ?_
  refine w_if_eq (tgt := 16) d_MO_decided_9 rfl (fun _ => ?_) (fun z => absurd (by decide) z)
  refine w_iconst (v := nI 0) d_MO_decided_16 (by decide) ?_
  refine w_goto (tgt := 72) d_MO_decided_17 rfl ?_
  rw [← hEN]
  refine w_zret d_MO_decided_72 rfl (by first | exact Or.inl rfl | exact Or.inr rfl) ?_
  exact ⟨rfl, rfl⟩
set_option maxHeartbeats 4000000 in
set_option maxRecDepth 100000 in
theorem m_MO_decided_010 {h : wH} : PM X M_MO_decided 0 0 0 [.int (nI 0), .int (nI 1), .int (nI 0)] h (fun r h' => r = some (.int (bI (eDec 0 false true))) ∧ h' = h) := by
  refine PM.at (pl := [some (.int (nI 0)), some (.int (nI 1)), some (.int (nI 0))]) rfl rfl (by simp [wle, wen]) ?_
  generalize hEN : wEm X 0 0 _ = EN
  refine w_iload_n d_MO_decided_0 rfl ?_
  refine w_if_ne (tgt := 20) d_MO_decided_1 rfl (fun z => absurd (by decide) z) (fun _ => ?_)
  refine w_iload_n d_MO_decided_4 rfl ?_
  refine w_if_ne (tgt := 12) d_MO_decided_5 rfl (fun z => absurd (by decide) z) (fun _ => ?_)
  refine w_iload_n d_MO_decided_8 rfl ?_
  refine w_if_eq (tgt := 16) d_MO_decided_9 rfl (fun z => absurd z (by decide)) (fun _ => ?_)
  refine w_iconst (v := nI 1) d_MO_decided_12 (by decide) ?_
  refine w_goto (tgt := 72) d_MO_decided_13 rfl ?_
  rw [← hEN]
  refine w_zret d_MO_decided_72 rfl (by first | exact Or.inl rfl | exact Or.inr rfl) ?_
  exact ⟨rfl, rfl⟩
set_option maxHeartbeats 4000000 in
set_option maxRecDepth 100000 in
theorem m_MO_decided_100 {h : wH} : PM X M_MO_decided 0 0 0 [.int (nI 1), .int (nI 0), .int (nI 0)] h (fun r h' => r = some (.int (bI (eDec 0 true false))) ∧ h' = h) := by
  refine PM.at (pl := [some (.int (nI 1)), some (.int (nI 0)), some (.int (nI 0))]) rfl rfl (by simp [wle, wen]) ?_
  generalize hEN : wEm X 0 0 _ = EN
  refine w_iload_n d_MO_decided_0 rfl ?_
  refine w_if_ne (tgt := 20) d_MO_decided_1 rfl (fun z => absurd (by decide) z) (fun _ => ?_)
  refine w_iload_n d_MO_decided_4 rfl ?_
  refine w_if_ne (tgt := 12) d_MO_decided_5 rfl (fun _ => ?_) (fun z => absurd z (by decide))
  refine w_iconst (v := nI 1) d_MO_decided_12 (by decide) ?_
  refine w_goto (tgt := 72) d_MO_decided_13 rfl ?_
  rw [← hEN]
  refine w_zret d_MO_decided_72 rfl (by first | exact Or.inl rfl | exact Or.inr rfl) ?_
  exact ⟨rfl, rfl⟩
set_option maxHeartbeats 4000000 in
set_option maxRecDepth 100000 in
theorem m_MO_decided_110 {h : wH} : PM X M_MO_decided 0 0 0 [.int (nI 1), .int (nI 1), .int (nI 0)] h (fun r h' => r = some (.int (bI (eDec 0 true true))) ∧ h' = h) := by
  refine PM.at (pl := [some (.int (nI 1)), some (.int (nI 1)), some (.int (nI 0))]) rfl rfl (by simp [wle, wen]) ?_
  generalize hEN : wEm X 0 0 _ = EN
  refine w_iload_n d_MO_decided_0 rfl ?_
  refine w_if_ne (tgt := 20) d_MO_decided_1 rfl (fun z => absurd (by decide) z) (fun _ => ?_)
  refine w_iload_n d_MO_decided_4 rfl ?_
  refine w_if_ne (tgt := 12) d_MO_decided_5 rfl (fun _ => ?_) (fun z => absurd z (by decide))
  refine w_iconst (v := nI 1) d_MO_decided_12 (by decide) ?_
  refine w_goto (tgt := 72) d_MO_decided_13 rfl ?_
  rw [← hEN]
  refine w_zret d_MO_decided_72 rfl (by first | exact Or.inl rfl | exact Or.inr rfl) ?_
  exact ⟨rfl, rfl⟩
set_option maxHeartbeats 4000000 in
set_option maxRecDepth 100000 in
theorem m_MO_decided_001 {h : wH} : PM X M_MO_decided 0 0 0 [.int (nI 0), .int (nI 0), .int (nI 1)] h (fun r h' => r = some (.int (bI (eDec 1 false false))) ∧ h' = h) := by
  refine PM.at (pl := [some (.int (nI 0)), some (.int (nI 0)), some (.int (nI 1))]) rfl rfl (by simp [wle, wen]) ?_
  generalize hEN : wEm X 0 0 _ = EN
  refine w_iload_n d_MO_decided_0 rfl ?_
  refine w_if_ne (tgt := 20) d_MO_decided_1 rfl (fun _ => ?_) (fun z => absurd z (by decide))
  refine w_iload_n d_MO_decided_20 rfl ?_
  refine w_iconst (v := nI 1) d_MO_decided_21 (by decide) ?_
  refine w_icmp_ne (tgt := 41) d_MO_decided_22 rfl (fun z => absurd (by decide) z) (fun _ => ?_)
  refine w_iload_n d_MO_decided_25 rfl ?_
  refine w_if_eq (tgt := 37) d_MO_decided_26 rfl (fun _ => ?_) (fun z => absurd (by decide) z)
  refine w_iconst (v := nI 0) d_MO_decided_37 (by decide) ?_
  refine w_goto (tgt := 72) d_MO_decided_38 rfl ?_
  rw [← hEN]
  refine w_zret d_MO_decided_72 rfl (by first | exact Or.inl rfl | exact Or.inr rfl) ?_
  exact ⟨rfl, rfl⟩
set_option maxHeartbeats 4000000 in
set_option maxRecDepth 100000 in
theorem m_MO_decided_011 {h : wH} : PM X M_MO_decided 0 0 0 [.int (nI 0), .int (nI 1), .int (nI 1)] h (fun r h' => r = some (.int (bI (eDec 1 false true))) ∧ h' = h) := by
  refine PM.at (pl := [some (.int (nI 0)), some (.int (nI 1)), some (.int (nI 1))]) rfl rfl (by simp [wle, wen]) ?_
  generalize hEN : wEm X 0 0 _ = EN
  refine w_iload_n d_MO_decided_0 rfl ?_
  refine w_if_ne (tgt := 20) d_MO_decided_1 rfl (fun _ => ?_) (fun z => absurd z (by decide))
  refine w_iload_n d_MO_decided_20 rfl ?_
  refine w_iconst (v := nI 1) d_MO_decided_21 (by decide) ?_
  refine w_icmp_ne (tgt := 41) d_MO_decided_22 rfl (fun z => absurd (by decide) z) (fun _ => ?_)
  refine w_iload_n d_MO_decided_25 rfl ?_
  refine w_if_eq (tgt := 37) d_MO_decided_26 rfl (fun _ => ?_) (fun z => absurd (by decide) z)
  refine w_iconst (v := nI 0) d_MO_decided_37 (by decide) ?_
  refine w_goto (tgt := 72) d_MO_decided_38 rfl ?_
  rw [← hEN]
  refine w_zret d_MO_decided_72 rfl (by first | exact Or.inl rfl | exact Or.inr rfl) ?_
  exact ⟨rfl, rfl⟩
set_option maxHeartbeats 4000000 in
set_option maxRecDepth 100000 in
theorem m_MO_decided_101 {h : wH} : PM X M_MO_decided 0 0 0 [.int (nI 1), .int (nI 0), .int (nI 1)] h (fun r h' => r = some (.int (bI (eDec 1 true false))) ∧ h' = h) := by
  refine PM.at (pl := [some (.int (nI 1)), some (.int (nI 0)), some (.int (nI 1))]) rfl rfl (by simp [wle, wen]) ?_
  generalize hEN : wEm X 0 0 _ = EN
  refine w_iload_n d_MO_decided_0 rfl ?_
  refine w_if_ne (tgt := 20) d_MO_decided_1 rfl (fun _ => ?_) (fun z => absurd z (by decide))
  refine w_iload_n d_MO_decided_20 rfl ?_
  refine w_iconst (v := nI 1) d_MO_decided_21 (by decide) ?_
  refine w_icmp_ne (tgt := 41) d_MO_decided_22 rfl (fun z => absurd (by decide) z) (fun _ => ?_)
  refine w_iload_n d_MO_decided_25 rfl ?_
  refine w_if_eq (tgt := 37) d_MO_decided_26 rfl (fun z => absurd z (by decide)) (fun _ => ?_)
  refine w_iload_n d_MO_decided_29 rfl ?_
  refine w_if_eq (tgt := 37) d_MO_decided_30 rfl (fun _ => ?_) (fun z => absurd (by decide) z)
  refine w_iconst (v := nI 0) d_MO_decided_37 (by decide) ?_
  refine w_goto (tgt := 72) d_MO_decided_38 rfl ?_
  rw [← hEN]
  refine w_zret d_MO_decided_72 rfl (by first | exact Or.inl rfl | exact Or.inr rfl) ?_
  exact ⟨rfl, rfl⟩
set_option maxHeartbeats 4000000 in
set_option maxRecDepth 100000 in
theorem m_MO_decided_111 {h : wH} : PM X M_MO_decided 0 0 0 [.int (nI 1), .int (nI 1), .int (nI 1)] h (fun r h' => r = some (.int (bI (eDec 1 true true))) ∧ h' = h) := by
  refine PM.at (pl := [some (.int (nI 1)), some (.int (nI 1)), some (.int (nI 1))]) rfl rfl (by simp [wle, wen]) ?_
  generalize hEN : wEm X 0 0 _ = EN
  refine w_iload_n d_MO_decided_0 rfl ?_
  refine w_if_ne (tgt := 20) d_MO_decided_1 rfl (fun _ => ?_) (fun z => absurd z (by decide))
  refine w_iload_n d_MO_decided_20 rfl ?_
  refine w_iconst (v := nI 1) d_MO_decided_21 (by decide) ?_
  refine w_icmp_ne (tgt := 41) d_MO_decided_22 rfl (fun z => absurd (by decide) z) (fun _ => ?_)
  refine w_iload_n d_MO_decided_25 rfl ?_
  refine w_if_eq (tgt := 37) d_MO_decided_26 rfl (fun z => absurd z (by decide)) (fun _ => ?_)
  refine w_iload_n d_MO_decided_29 rfl ?_
  refine w_if_eq (tgt := 37) d_MO_decided_30 rfl (fun z => absurd z (by decide)) (fun _ => ?_)
  refine w_iconst (v := nI 1) d_MO_decided_33 (by decide) ?_
  refine w_goto (tgt := 72) d_MO_decided_34 rfl ?_
  rw [← hEN]
  refine w_zret d_MO_decided_72 rfl (by first | exact Or.inl rfl | exact Or.inr rfl) ?_
  exact ⟨rfl, rfl⟩
set_option maxHeartbeats 4000000 in
set_option maxRecDepth 100000 in
theorem m_MO_decided_002 {h : wH} : PM X M_MO_decided 0 0 0 [.int (nI 0), .int (nI 0), .int (nI 2)] h (fun r h' => r = some (.int (bI (eDec 2 false false))) ∧ h' = h) := by
  refine PM.at (pl := [some (.int (nI 0)), some (.int (nI 0)), some (.int (nI 2))]) rfl rfl (by simp [wle, wen]) ?_
  generalize hEN : wEm X 0 0 _ = EN
  refine w_iload_n d_MO_decided_0 rfl ?_
  refine w_if_ne (tgt := 20) d_MO_decided_1 rfl (fun _ => ?_) (fun z => absurd z (by decide))
  refine w_iload_n d_MO_decided_20 rfl ?_
  refine w_iconst (v := nI 1) d_MO_decided_21 (by decide) ?_
  refine w_icmp_ne (tgt := 41) d_MO_decided_22 rfl (fun _ => ?_) (fun z => absurd z (by decide))
  refine w_iload_n d_MO_decided_41 rfl ?_
  refine w_iconst (v := nI 2) d_MO_decided_42 (by decide) ?_
  refine w_icmp_ne (tgt := 62) d_MO_decided_43 rfl (fun z => absurd (by decide) z) (fun _ => ?_)
  refine w_iload_n d_MO_decided_46 rfl ?_
  refine w_if_eq (tgt := 58) d_MO_decided_47 rfl (fun _ => ?_) (fun z => absurd (by decide) z)
  refine w_iconst (v := nI 0) d_MO_decided_58 (by decide) ?_
  refine w_goto (tgt := 72) d_MO_decided_59 rfl ?_
  rw [← hEN]
  refine w_zret d_MO_decided_72 rfl (by first | exact Or.inl rfl | exact Or.inr rfl) ?_
  exact ⟨rfl, rfl⟩
set_option maxHeartbeats 4000000 in
set_option maxRecDepth 100000 in
theorem m_MO_decided_012 {h : wH} : PM X M_MO_decided 0 0 0 [.int (nI 0), .int (nI 1), .int (nI 2)] h (fun r h' => r = some (.int (bI (eDec 2 false true))) ∧ h' = h) := by
  refine PM.at (pl := [some (.int (nI 0)), some (.int (nI 1)), some (.int (nI 2))]) rfl rfl (by simp [wle, wen]) ?_
  generalize hEN : wEm X 0 0 _ = EN
  refine w_iload_n d_MO_decided_0 rfl ?_
  refine w_if_ne (tgt := 20) d_MO_decided_1 rfl (fun _ => ?_) (fun z => absurd z (by decide))
  refine w_iload_n d_MO_decided_20 rfl ?_
  refine w_iconst (v := nI 1) d_MO_decided_21 (by decide) ?_
  refine w_icmp_ne (tgt := 41) d_MO_decided_22 rfl (fun _ => ?_) (fun z => absurd z (by decide))
  refine w_iload_n d_MO_decided_41 rfl ?_
  refine w_iconst (v := nI 2) d_MO_decided_42 (by decide) ?_
  refine w_icmp_ne (tgt := 62) d_MO_decided_43 rfl (fun z => absurd (by decide) z) (fun _ => ?_)
  refine w_iload_n d_MO_decided_46 rfl ?_
  refine w_if_eq (tgt := 58) d_MO_decided_47 rfl (fun _ => ?_) (fun z => absurd (by decide) z)
  refine w_iconst (v := nI 0) d_MO_decided_58 (by decide) ?_
  refine w_goto (tgt := 72) d_MO_decided_59 rfl ?_
  rw [← hEN]
  refine w_zret d_MO_decided_72 rfl (by first | exact Or.inl rfl | exact Or.inr rfl) ?_
  exact ⟨rfl, rfl⟩
set_option maxHeartbeats 4000000 in
set_option maxRecDepth 100000 in
theorem m_MO_decided_102 {h : wH} : PM X M_MO_decided 0 0 0 [.int (nI 1), .int (nI 0), .int (nI 2)] h (fun r h' => r = some (.int (bI (eDec 2 true false))) ∧ h' = h) := by
  refine PM.at (pl := [some (.int (nI 1)), some (.int (nI 0)), some (.int (nI 2))]) rfl rfl (by simp [wle, wen]) ?_
  generalize hEN : wEm X 0 0 _ = EN
  refine w_iload_n d_MO_decided_0 rfl ?_
  refine w_if_ne (tgt := 20) d_MO_decided_1 rfl (fun _ => ?_) (fun z => absurd z (by decide))
  refine w_iload_n d_MO_decided_20 rfl ?_
  refine w_iconst (v := nI 1) d_MO_decided_21 (by decide) ?_
  refine w_icmp_ne (tgt := 41) d_MO_decided_22 rfl (fun _ => ?_) (fun z => absurd z (by decide))
  refine w_iload_n d_MO_decided_41 rfl ?_
  refine w_iconst (v := nI 2) d_MO_decided_42 (by decide) ?_
  refine w_icmp_ne (tgt := 62) d_MO_decided_43 rfl (fun z => absurd (by decide) z) (fun _ => ?_)
  refine w_iload_n d_MO_decided_46 rfl ?_
  refine w_if_eq (tgt := 58) d_MO_decided_47 rfl (fun z => absurd z (by decide)) (fun _ => ?_)
  refine w_iload_n d_MO_decided_50 rfl ?_
  refine w_if_ne (tgt := 58) d_MO_decided_51 rfl (fun z => absurd (by decide) z) (fun _ => ?_)
  refine w_iconst (v := nI 1) d_MO_decided_54 (by decide) ?_
  refine w_goto (tgt := 72) d_MO_decided_55 rfl ?_
  rw [← hEN]
  refine w_zret d_MO_decided_72 rfl (by first | exact Or.inl rfl | exact Or.inr rfl) ?_
  exact ⟨rfl, rfl⟩
set_option maxHeartbeats 4000000 in
set_option maxRecDepth 100000 in
theorem m_MO_decided_112 {h : wH} : PM X M_MO_decided 0 0 0 [.int (nI 1), .int (nI 1), .int (nI 2)] h (fun r h' => r = some (.int (bI (eDec 2 true true))) ∧ h' = h) := by
  refine PM.at (pl := [some (.int (nI 1)), some (.int (nI 1)), some (.int (nI 2))]) rfl rfl (by simp [wle, wen]) ?_
  generalize hEN : wEm X 0 0 _ = EN
  refine w_iload_n d_MO_decided_0 rfl ?_
  refine w_if_ne (tgt := 20) d_MO_decided_1 rfl (fun _ => ?_) (fun z => absurd z (by decide))
  refine w_iload_n d_MO_decided_20 rfl ?_
  refine w_iconst (v := nI 1) d_MO_decided_21 (by decide) ?_
  refine w_icmp_ne (tgt := 41) d_MO_decided_22 rfl (fun _ => ?_) (fun z => absurd z (by decide))
  refine w_iload_n d_MO_decided_41 rfl ?_
  refine w_iconst (v := nI 2) d_MO_decided_42 (by decide) ?_
  refine w_icmp_ne (tgt := 62) d_MO_decided_43 rfl (fun z => absurd (by decide) z) (fun _ => ?_)
  refine w_iload_n d_MO_decided_46 rfl ?_
  refine w_if_eq (tgt := 58) d_MO_decided_47 rfl (fun z => absurd z (by decide)) (fun _ => ?_)
  refine w_iload_n d_MO_decided_50 rfl ?_
  refine w_if_ne (tgt := 58) d_MO_decided_51 rfl (fun _ => ?_) (fun z => absurd z (by decide))
  refine w_iconst (v := nI 0) d_MO_decided_58 (by decide) ?_
  refine w_goto (tgt := 72) d_MO_decided_59 rfl ?_
  rw [← hEN]
  refine w_zret d_MO_decided_72 rfl (by first | exact Or.inl rfl | exact Or.inr rfl) ?_
  exact ⟨rfl, rfl⟩
set_option maxHeartbeats 4000000 in
set_option maxRecDepth 100000 in
theorem m_MO_decided_003 {h : wH} : PM X M_MO_decided 0 0 0 [.int (nI 0), .int (nI 0), .int (nI 3)] h (fun r h' => r = some (.int (bI (eDec 3 false false))) ∧ h' = h) := by
  refine PM.at (pl := [some (.int (nI 0)), some (.int (nI 0)), some (.int (nI 3))]) rfl rfl (by simp [wle, wen]) ?_
  generalize hEN : wEm X 0 0 _ = EN
  refine w_iload_n d_MO_decided_0 rfl ?_
  refine w_if_ne (tgt := 20) d_MO_decided_1 rfl (fun _ => ?_) (fun z => absurd z (by decide))
  refine w_iload_n d_MO_decided_20 rfl ?_
  refine w_iconst (v := nI 1) d_MO_decided_21 (by decide) ?_
  refine w_icmp_ne (tgt := 41) d_MO_decided_22 rfl (fun _ => ?_) (fun z => absurd z (by decide))
  refine w_iload_n d_MO_decided_41 rfl ?_
  refine w_iconst (v := nI 2) d_MO_decided_42 (by decide) ?_
  refine w_icmp_ne (tgt := 62) d_MO_decided_43 rfl (fun _ => ?_) (fun z => absurd z (by decide))
  refine w_iload_n d_MO_decided_62 rfl ?_
  refine w_iload_n d_MO_decided_63 rfl ?_
  refine w_icmp_eq (tgt := 71) d_MO_decided_64 rfl (fun _ => ?_) (fun z => absurd (by decide) z)
  refine w_iconst (v := nI 0) d_MO_decided_71 (by decide) ?_
  rw [← hEN]
  refine w_zret d_MO_decided_72 rfl (by first | exact Or.inl rfl | exact Or.inr rfl) ?_
  exact ⟨rfl, rfl⟩
set_option maxHeartbeats 4000000 in
set_option maxRecDepth 100000 in
theorem m_MO_decided_013 {h : wH} : PM X M_MO_decided 0 0 0 [.int (nI 0), .int (nI 1), .int (nI 3)] h (fun r h' => r = some (.int (bI (eDec 3 false true))) ∧ h' = h) := by
  refine PM.at (pl := [some (.int (nI 0)), some (.int (nI 1)), some (.int (nI 3))]) rfl rfl (by simp [wle, wen]) ?_
  generalize hEN : wEm X 0 0 _ = EN
  refine w_iload_n d_MO_decided_0 rfl ?_
  refine w_if_ne (tgt := 20) d_MO_decided_1 rfl (fun _ => ?_) (fun z => absurd z (by decide))
  refine w_iload_n d_MO_decided_20 rfl ?_
  refine w_iconst (v := nI 1) d_MO_decided_21 (by decide) ?_
  refine w_icmp_ne (tgt := 41) d_MO_decided_22 rfl (fun _ => ?_) (fun z => absurd z (by decide))
  refine w_iload_n d_MO_decided_41 rfl ?_
  refine w_iconst (v := nI 2) d_MO_decided_42 (by decide) ?_
  refine w_icmp_ne (tgt := 62) d_MO_decided_43 rfl (fun _ => ?_) (fun z => absurd z (by decide))
  refine w_iload_n d_MO_decided_62 rfl ?_
  refine w_iload_n d_MO_decided_63 rfl ?_
  refine w_icmp_eq (tgt := 71) d_MO_decided_64 rfl (fun z => absurd z (by decide)) (fun _ => ?_)
  refine w_iconst (v := nI 1) d_MO_decided_67 (by decide) ?_
  refine w_goto (tgt := 72) d_MO_decided_68 rfl ?_
  rw [← hEN]
  refine w_zret d_MO_decided_72 rfl (by first | exact Or.inl rfl | exact Or.inr rfl) ?_
  exact ⟨rfl, rfl⟩
set_option maxHeartbeats 4000000 in
set_option maxRecDepth 100000 in
theorem m_MO_decided_103 {h : wH} : PM X M_MO_decided 0 0 0 [.int (nI 1), .int (nI 0), .int (nI 3)] h (fun r h' => r = some (.int (bI (eDec 3 true false))) ∧ h' = h) := by
  refine PM.at (pl := [some (.int (nI 1)), some (.int (nI 0)), some (.int (nI 3))]) rfl rfl (by simp [wle, wen]) ?_
  generalize hEN : wEm X 0 0 _ = EN
  refine w_iload_n d_MO_decided_0 rfl ?_
  refine w_if_ne (tgt := 20) d_MO_decided_1 rfl (fun _ => ?_) (fun z => absurd z (by decide))
  refine w_iload_n d_MO_decided_20 rfl ?_
  refine w_iconst (v := nI 1) d_MO_decided_21 (by decide) ?_
  refine w_icmp_ne (tgt := 41) d_MO_decided_22 rfl (fun _ => ?_) (fun z => absurd z (by decide))
  refine w_iload_n d_MO_decided_41 rfl ?_
  refine w_iconst (v := nI 2) d_MO_decided_42 (by decide) ?_
  refine w_icmp_ne (tgt := 62) d_MO_decided_43 rfl (fun _ => ?_) (fun z => absurd z (by decide))
  refine w_iload_n d_MO_decided_62 rfl ?_
  refine w_iload_n d_MO_decided_63 rfl ?_
  refine w_icmp_eq (tgt := 71) d_MO_decided_64 rfl (fun z => absurd z (by decide)) (fun _ => ?_)
  refine w_iconst (v := nI 1) d_MO_decided_67 (by decide) ?_
  refine w_goto (tgt := 72) d_MO_decided_68 rfl ?_
  rw [← hEN]
  refine w_zret d_MO_decided_72 rfl (by first | exact Or.inl rfl | exact Or.inr rfl) ?_
  exact ⟨rfl, rfl⟩
set_option maxHeartbeats 4000000 in
set_option maxRecDepth 100000 in
theorem m_MO_decided_113 {h : wH} : PM X M_MO_decided 0 0 0 [.int (nI 1), .int (nI 1), .int (nI 3)] h (fun r h' => r = some (.int (bI (eDec 3 true true))) ∧ h' = h) := by
  refine PM.at (pl := [some (.int (nI 1)), some (.int (nI 1)), some (.int (nI 3))]) rfl rfl (by simp [wle, wen]) ?_
  generalize hEN : wEm X 0 0 _ = EN
  refine w_iload_n d_MO_decided_0 rfl ?_
  refine w_if_ne (tgt := 20) d_MO_decided_1 rfl (fun _ => ?_) (fun z => absurd z (by decide))
  refine w_iload_n d_MO_decided_20 rfl ?_
  refine w_iconst (v := nI 1) d_MO_decided_21 (by decide) ?_
  refine w_icmp_ne (tgt := 41) d_MO_decided_22 rfl (fun _ => ?_) (fun z => absurd z (by decide))
  refine w_iload_n d_MO_decided_41 rfl ?_
  refine w_iconst (v := nI 2) d_MO_decided_42 (by decide) ?_
  refine w_icmp_ne (tgt := 62) d_MO_decided_43 rfl (fun _ => ?_) (fun z => absurd z (by decide))
  refine w_iload_n d_MO_decided_62 rfl ?_
  refine w_iload_n d_MO_decided_63 rfl ?_
  refine w_icmp_eq (tgt := 71) d_MO_decided_64 rfl (fun _ => ?_) (fun z => absurd (by decide) z)
  refine w_iconst (v := nI 0) d_MO_decided_71 (by decide) ?_
  rw [← hEN]
  refine w_zret d_MO_decided_72 rfl (by first | exact Or.inl rfl | exact Or.inr rfl) ?_
  exact ⟨rfl, rfl⟩
theorem m_MO_decided {h : wH} {a b : Bool} {how : Nat} (hh : how ≤ 3) : PM X M_MO_decided 0 0 0 [.int (bI a), .int (bI b), .int (nI how)] h (fun r h' => r = some (.int (bI (eDec how a b))) ∧ h' = h) := by
  rcases (by omega : how = 0 ∨ how = 1 ∨ how = 2 ∨ how = 3) with rfl | rfl | rfl | rfl <;> cases a <;> cases b
  · exact m_MO_decided_000
  · exact m_MO_decided_010
  · exact m_MO_decided_100
  · exact m_MO_decided_110
  · exact m_MO_decided_001
  · exact m_MO_decided_011
  · exact m_MO_decided_101
  · exact m_MO_decided_111
  · exact m_MO_decided_002
  · exact m_MO_decided_012
  · exact m_MO_decided_102
  · exact m_MO_decided_112
  · exact m_MO_decided_003
  · exact m_MO_decided_013
  · exact m_MO_decided_103
  · exact m_MO_decided_113
set_option maxHeartbeats 4000000 in
set_option maxRecDepth 100000 in
theorem m_MO_keepN {h : wH} {sz ap gd dp wr fi : Int32} (hx : h[57]? = some (.inr (7, [.ref 58, .int (sz), .ref 59, .ref 60, .ref 61, .ref 62, .int (ap), .int (gd), .int (dp), .ref 63, .ref 64, .ref 65, .ref 66, .int (wr), .int (fi), .ref 67]))) {s : Int64} : PM X M_MO_keepString 0 0 0 [.ref 57, .long (s), .int (nI 0)] h (fun z h' => z = none ∧ h' = h) := by
  refine PM.at (pl := [some (.ref 57), some (.long (s)), none, some (.int (nI 0))]) rfl rfl (by simp [wle, wen]) ?_
  generalize hEN : wEm X 0 0 _ = EN
  refine w_iload_n d_MO_keepString_0 rfl ?_
  refine w_if_eq (tgt := 37) d_MO_keepString_1 rfl (fun _ => ?_) (fun z => absurd (by decide) z)
  rw [← hEN]
  refine w_vret d_MO_keepString_37 rfl ?_
  exact ⟨rfl, rfl⟩
set_option maxHeartbeats 4000000 in
set_option maxRecDepth 100000 in
theorem m_MO_keepY {h : wH} {sz ap gd dp wr fi : Int32} (hx : h[57]? = some (.inr (7, [.ref 58, .int (sz), .ref 59, .ref 60, .ref 61, .ref 62, .int (ap), .int (gd), .int (dp), .ref 63, .ref 64, .ref 65, .ref 66, .int (wr), .int (fi), .ref 67]))) {EE SS : Nat → List Nat} (hE : mE h EE SS) {s : Nat} (hl : (SS 10).length < 20) : PM X M_MO_keepString 0 0 0 [.ref 57, .long (lN (s - 4398048608256)), .int (nI 1)] h (fun z h' => z = none ∧ mE h' EE (va_up SS 10 (SS 10 ++ [s])) ∧ wOff h h' 59 4) := by
  obtain ⟨ef, cf, sf, nf, ha, hb, hc, hd, hs⟩ := id hE
  obtain ⟨s1, s2, s3, s4, s5, s6⟩ := hs 10 (by decide)
  refine PM.at (pl := [some (.ref 57), some (.long (lN (s - 4398048608256))), none, some (.int (nI 1))]) rfl rfl (by simp [wle, wen]) ?_
  generalize hEN : wEm X 0 0 _ = EN
  refine w_iload_n d_MO_keepString_0 rfl ?_
  refine w_if_eq (tgt := 37) d_MO_keepString_1 rfl (fun z => absurd z (by decide)) (fun _ => ?_)
  refine w_aload_n d_MO_keepString_4 rfl rfl ?_
  refine w_get d_MO_keepString_5 f_MO_19 hx rfl ?_
  refine w_sipush (v := nI 200) d_MO_keepString_8 (by decide) ?_
  refine w_aload_n d_MO_keepString_11 rfl rfl ?_
  refine w_get d_MO_keepString_12 f_MO_23 hx rfl ?_
  refine w_bipush (v := nI 10) d_MO_keepString_15 (by decide) ?_
  refine w_iald d_MO_keepString_17 hd (vp_in_nI (by omega) (by decide)) ?_
  refine w_topi (y := nI (SS 10).length) s2 ?_
  refine w_iadd d_MO_keepString_18 ?_
  refine w_topi (y := nI (200 + (SS 10).length)) (nI_add _ _) ?_
  refine w_lload_n d_MO_keepString_19 rfl ?_
  refine w_last d_MO_keepString_20 hc (vp_in_nI (by omega) (by decide)) ?_
  refine w_nm (fun h1 e1 => ?_)
  have hx_1 := wS_ne e1 (by omega) hx
  have ha_1 := wS_ne e1 (by omega) ha
  have hb_1 := wS_ne e1 (by omega) hb
  have hc_1 := wS_eq e1 hc
  have hd_1 := wS_ne e1 (by omega) hd
  refine w_aload_n d_MO_keepString_21 rfl rfl ?_
  refine w_get d_MO_keepString_22 f_MO_23 hx_1 rfl ?_
  refine w_bipush (v := nI 10) d_MO_keepString_25 (by decide) ?_
  refine w_aload_n d_MO_keepString_27 rfl rfl ?_
  refine w_get d_MO_keepString_28 f_MO_23 hx_1 rfl ?_
  refine w_bipush (v := nI 10) d_MO_keepString_31 (by decide) ?_
  refine w_iald d_MO_keepString_33 hd_1 (vp_in_nI (by omega) (by decide)) ?_
  refine w_topi (y := nI (SS 10).length) s2 ?_
  refine w_iconst (v := nI 1) d_MO_keepString_34 (by decide) ?_
  refine w_iadd d_MO_keepString_35 ?_
  refine w_topi (y := nI ((SS 10).length + 1)) (nI_1 _) ?_
  refine w_iast d_MO_keepString_36 hd_1 (vp_in_nI (by omega) (by decide)) ?_
  refine w_nm (fun h2 e2 => ?_)
  have hx_2 := wS_ne e2 (by omega) hx_1
  have ha_2 := wS_ne e2 (by omega) ha_1
  have hb_2 := wS_ne e2 (by omega) hb_1
  have hc_2 := wS_ne e2 (by omega) hc_1
  have hd_2 := wS_eq e2 hd_1
  rw [← hEN]
  refine w_vret d_MO_keepString_37 rfl ?_
  refine ⟨rfl, ⟨_, _, _, _, ha_2, hb_2, hc_2, hd_2, fun j hj => ?_⟩, fun k hk => by rw [wS_off e2 (by omega), wS_off e1 (by omega)]⟩
  rw [nI_clamp (by omega), nI_clamp (by decide)]
  by_cases hjt : j = 10
  · subst hjt
    rw [va_up_self]
    refine ⟨s1, by rw [upd_eq, List.length_append]; rfl, s3, by rw [List.length_append, List.length_singleton]; omega, s5, fun i x hx => ?_⟩
    by_cases hi : i < (SS 10).length
    · rw [List.getElem?_append_left hi] at hx
      rw [updL_ne (by omega)]
      exact s6 i x hx
    · have hlt := (List.getElem?_eq_some_iff.mp hx).1
      rw [List.length_append, List.length_singleton] at hlt
      have hi2 : i = (SS 10).length := by omega
      subst hi2
      rw [List.getElem?_append_right (Nat.le_refl _), Nat.sub_self] at hx
      cases hx
      exact updL_eq
  · rw [va_up_ne _ _ hjt]
    exact (hs j hj).keep (fun _ _ => rfl) rfl (fun i hi => updL_ne (by omega)) (upd_ne hjt)
set_option maxHeartbeats 4000000 in
set_option maxRecDepth 100000 in
theorem m_MO_strOf2 {h : wH} {a b : Nat} {c : Int32} (ha : a < 1114112) (hb : b < 1114112) : PM X M_MO_stringOf 0 0 0 [.int (nI a), .int (nI b), .int (c), .int (nI 0)] h (fun z h' => z = some (.long (lN (kOf a b 0 - 4398048608256))) ∧ h' = h) := by
  refine PM.at (pl := [some (.int (nI a)), some (.int (nI b)), some (.int (c)), some (.int (nI 0)), none, none]) rfl rfl (by simp [wle, wen]) ?_
  generalize hEN : wEm X 0 0 _ = EN
  refine w_iload_n d_MO_stringOf_0 rfl ?_
  refine w_if_eq (tgt := 11) d_MO_stringOf_1 rfl (fun _ => ?_) (fun z => absurd (by decide) z)
  refine w_lconst (v := lN 0) d_MO_stringOf_11 (by decide) ?_
  refine w_lstore d_MO_stringOf_12 (by decide) ?_
  refine w_pl (pl' := [some (.int (nI a)), some (.int (nI b)), some (.int (c)), some (.int (nI 0)), some (.long (lN 0)), none]) rfl ?_
  refine w_iload_n d_MO_stringOf_14 rfl ?_
  refine w_i2l d_MO_stringOf_15 ?_
  refine w_topl (y := lN a) (nI_l (by omega)) ?_
  refine w_bipush (v := nI 42) d_MO_stringOf_16 (by decide) ?_
  refine w_lshl d_MO_stringOf_18 ?_
  refine w_topl (y := lN (a * 2 ^ 42)) (wb_shl a (k := 42) (by decide)) ?_
  refine w_iload_n d_MO_stringOf_19 rfl ?_
  refine w_i2l d_MO_stringOf_20 ?_
  refine w_topl (y := lN b) (nI_l (by omega)) ?_
  refine w_bipush (v := nI 21) d_MO_stringOf_21 (by decide) ?_
  refine w_lshl d_MO_stringOf_23 ?_
  refine w_topl (y := lN (b * 2 ^ 21)) (wb_shl b (k := 21) (by decide)) ?_
  refine w_ladd d_MO_stringOf_24 ?_
  refine w_topl (y := lN (a * 2 ^ 42 + b * 2 ^ 21)) (lN_add _ _) ?_
  refine w_lload d_MO_stringOf_25 rfl ?_
  refine w_ladd d_MO_stringOf_27 ?_
  refine w_topl (y := lN (a * 2 ^ 42 + b * 2 ^ 21 + 0)) (lN_add _ _) ?_
  rw [← hEN]
  refine w_lret d_MO_stringOf_28 rfl ?_
  rw [show kOf a b 0 - 4398048608256 = a * 2 ^ 42 + b * 2 ^ 21 + 0 by unfold kOf; omega]
  exact ⟨rfl, rfl⟩
set_option maxHeartbeats 4000000 in
set_option maxRecDepth 100000 in
theorem m_MO_strOf3 {h : wH} {a b c : Nat} (ha : a < 1114112) (hb : b < 1114112) (hc : c < 1114112) : PM X M_MO_stringOf 0 0 0 [.int (nI a), .int (nI b), .int (nI c), .int (nI 1)] h (fun z h' => z = some (.long (lN (kOf a b (c + 1) - 4398048608256))) ∧ h' = h) := by
  refine PM.at (pl := [some (.int (nI a)), some (.int (nI b)), some (.int (nI c)), some (.int (nI 1)), none, none]) rfl rfl (by simp [wle, wen]) ?_
  generalize hEN : wEm X 0 0 _ = EN
  refine w_iload_n d_MO_stringOf_0 rfl ?_
  refine w_if_eq (tgt := 11) d_MO_stringOf_1 rfl (fun z => absurd z (by decide)) (fun _ => ?_)
  refine w_iload_n d_MO_stringOf_4 rfl ?_
  refine w_i2l d_MO_stringOf_5 ?_
  refine w_topl (y := lN c) (nI_l (by omega)) ?_
  refine w_lconst (v := lN 1) d_MO_stringOf_6 (by decide) ?_
  refine w_ladd d_MO_stringOf_7 ?_
  refine w_topl (y := lN (c + 1)) (lN_add _ _) ?_
  refine w_goto (tgt := 12) d_MO_stringOf_8 rfl ?_
  refine w_lstore d_MO_stringOf_12 (by decide) ?_
  refine w_pl (pl' := [some (.int (nI a)), some (.int (nI b)), some (.int (nI c)), some (.int (nI 1)), some (.long (lN (c + 1))), none]) rfl ?_
  refine w_iload_n d_MO_stringOf_14 rfl ?_
  refine w_i2l d_MO_stringOf_15 ?_
  refine w_topl (y := lN a) (nI_l (by omega)) ?_
  refine w_bipush (v := nI 42) d_MO_stringOf_16 (by decide) ?_
  refine w_lshl d_MO_stringOf_18 ?_
  refine w_topl (y := lN (a * 2 ^ 42)) (wb_shl a (k := 42) (by decide)) ?_
  refine w_iload_n d_MO_stringOf_19 rfl ?_
  refine w_i2l d_MO_stringOf_20 ?_
  refine w_topl (y := lN b) (nI_l (by omega)) ?_
  refine w_bipush (v := nI 21) d_MO_stringOf_21 (by decide) ?_
  refine w_lshl d_MO_stringOf_23 ?_
  refine w_topl (y := lN (b * 2 ^ 21)) (wb_shl b (k := 21) (by decide)) ?_
  refine w_ladd d_MO_stringOf_24 ?_
  refine w_topl (y := lN (a * 2 ^ 42 + b * 2 ^ 21)) (lN_add _ _) ?_
  refine w_lload d_MO_stringOf_25 rfl ?_
  refine w_ladd d_MO_stringOf_27 ?_
  refine w_topl (y := lN (a * 2 ^ 42 + b * 2 ^ 21 + (c + 1))) (lN_add _ _) ?_
  rw [← hEN]
  refine w_lret d_MO_stringOf_28 rfl ?_
  rw [show kOf a b (c + 1) - 4398048608256 = a * 2 ^ 42 + b * 2 ^ 21 + (c + 1) by unfold kOf; omega]
  exact ⟨rfl, rfl⟩
end MO1
