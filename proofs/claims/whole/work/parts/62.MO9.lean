/-! the reference's signs: written by wip/gen/mo9.py -/
/-- the first place from k on that has no space -/
def pS (t : List Nat) : Nat → Nat → Nat
  | 0, k => k
  | f + 1, k => if t[k]? = some 32 then pS t f (k + 1) else k
def pSp (t : List Nat) (k : Nat) : Nat := pS t (t.length - k) k
theorem pSp_no {t : List Nat} {k : Nat} (h : ¬ t[k]? = some 32) : pSp t k = k := by
  unfold pSp
  cases hf : t.length - k with
  | zero => rfl
  | succ f => unfold pS; rw [if_neg h]
theorem pSp_32 {t : List Nat} {k : Nat} (h : t[k]? = some 32) : pSp t k = pSp t (k + 1) := by
  have := lx_lt h
  unfold pSp
  rw [show t.length - k = (t.length - (k + 1)) + 1 by omega]
  rw [show pS t ((t.length - (k + 1)) + 1) k = if t[k]? = some 32 then pS t (t.length - (k + 1)) (k + 1) else k from rfl, if_pos h]
theorem pS_b (t : List Nat) : ∀ (f k : Nat), k ≤ pS t f k ∧ pS t f k ≤ k + f
  | 0, k => ⟨Nat.le_refl _, Nat.le_refl _⟩
  | f + 1, k => by
    unfold pS
    split
    · have := pS_b t f (k + 1)
      omega
    · omega
theorem pSp_b (t : List Nat) (k : Nat) : k ≤ pSp t k ∧ (k ≤ t.length → pSp t k ≤ t.length) := by
  have := pS_b t (t.length - k) k
  unfold pSp
  omega
/-- a code point that is read at k, and the place behind it -/
def rc (t : List Nat) (k : Nat) : Option (Nat × Nat) := match t[k]? with
  | none => none
  | some c => match lxAt t k c with
    | some (some (1, v), w) => some (nV v, k + w)
    | _ => none
section MO9
variable {X : wX}
set_option maxHeartbeats 4000000 in
set_option maxRecDepth 100000 in
theorem m_MO_is {h : wH} {t : List Nat} {ap gd dp wr fi : Int32} (hx : h[57]? = some (.inr (7, [.ref 58, .int (nI t.length), .ref 59, .ref 60, .ref 61, .ref 62, .int (ap), .int (gd), .int (dp), .ref 63, .ref 64, .ref 65, .ref 66, .int (wr), .int (fi), .ref 67]))) (htx : mT h t) (ht31 : ∀ x ∈ t, x < 1114112) {k c : Nat} (hk : k < 2 ^ 31) (hc : c < 2 ^ 31) : PM X M_MO_is 0 0 0 [.ref 57, .int (nI k), .int (nI c)] h (fun z h' => z = some (.int (bI (decide (t[k]? = some c)))) ∧ h' = h) := by
  obtain ⟨tf, tp, t60, thf⟩ := id htx
  refine PM.at (pl := [some (.ref 57), some (.int (nI k)), some (.int (nI c))]) rfl rfl (by simp [wle, wen]) ?_
  generalize hEN : wEm X 0 0 _ = EN
  refine w_iload_n d_MO_is_0 rfl ?_
  refine w_aload_n d_MO_is_1 rfl rfl ?_
  refine w_get d_MO_is_2 f_MO_43 hx rfl ?_
  refine w_icmp_ge (tgt := 22) d_MO_is_5 rfl (fun c5 => ?_) (fun c5 => ?_)
  · have c5 := (nI_leI (a := t.length) (b := k) (by omega) hk).mp c5
    have hno : ¬ t[k]? = some c := by rw [List.getElem?_eq_none c5]; intro z; cases z
    refine w_iconst (v := nI 0) d_MO_is_22 (by decide) ?_
    rw [← hEN]
    refine w_zret d_MO_is_23 rfl (by first | exact Or.inl rfl | exact Or.inr rfl) ?_
    first | (rw [decide_eq_true hyes]; exact ⟨rfl, rfl⟩) | (rw [decide_eq_false hno]; exact ⟨rfl, rfl⟩)
  · have c5 : k < t.length := Nat.not_le.mp (fun z => c5 ((nI_leI (a := t.length) (b := k) (by omega) hk).mpr z))
    obtain ⟨y, hy⟩ := t_at c5
    have hyl := ht31 y (List.mem_of_getElem? hy)
    refine w_aload_n d_MO_is_8 rfl rfl ?_
    refine w_get d_MO_is_9 f_MO_7 hx rfl ?_
    refine w_iload_n d_MO_is_12 rfl ?_
    refine w_iald d_MO_is_13 tp (vp_in_nI (by omega) (by decide)) ?_
    refine w_topi (y := nI y) (by rw [nI_clamp (by omega)]; exact thf _ _ hy) ?_
    refine w_iload_n d_MO_is_14 rfl ?_
    refine w_icmp_ne (tgt := 22) d_MO_is_15 rfl (fun c15 => ?_) (fun c15 => ?_)
    · have hno : ¬ t[k]? = some c := by rw [hy]; intro z; cases z; exact c15 rfl
      refine w_iconst (v := nI 0) d_MO_is_22 (by decide) ?_
      rw [← hEN]
      refine w_zret d_MO_is_23 rfl (by first | exact Or.inl rfl | exact Or.inr rfl) ?_
      first | (rw [decide_eq_true hyes]; exact ⟨rfl, rfl⟩) | (rw [decide_eq_false hno]; exact ⟨rfl, rfl⟩)
    · have c15 : y = c := (nI_eq (by omega) hc).mp c15
      have hyes : t[k]? = some c := by rw [hy, c15]
      refine w_iconst (v := nI 1) d_MO_is_18 (by decide) ?_
      refine w_goto (tgt := 23) d_MO_is_19 rfl ?_
      rw [← hEN]
      refine w_zret d_MO_is_23 rfl (by first | exact Or.inl rfl | exact Or.inr rfl) ?_
      first | (rw [decide_eq_true hyes]; exact ⟨rfl, rfl⟩) | (rw [decide_eq_false hno]; exact ⟨rfl, rfl⟩)
set_option maxHeartbeats 4000000 in
set_option maxRecDepth 100000 in
theorem m_MO_past {h : wH} {t : List Nat} {ap gd dp wr fi : Int32} (hx : h[57]? = some (.inr (7, [.ref 58, .int (nI t.length), .ref 59, .ref 60, .ref 61, .ref 62, .int (ap), .int (gd), .int (dp), .ref 63, .ref 64, .ref 65, .ref 66, .int (wr), .int (fi), .ref 67]))) (htx : mT h t) (ht31 : ∀ x ∈ t, x < 1114112) {k : Nat} (hk : k < 2 ^ 30) : PM X M_MO_pastSpaces 1 0 0 [.ref 57, .int (nI k)] h (fun z h' => z = some (.int (nI (pSp t k))) ∧ h' = h) := by
  obtain ⟨tf, tp, t60, thf⟩ := id htx
  obtain ⟨res, hres⟩ : ∃ res, res = pSp t k := ⟨_, rfl⟩
  rw [← hres]
  refine PM.at (pl := [some (.ref 57), some (.int (nI k)), none]) rfl rfl (by simp [wle, wen]) ?_
  generalize hEN : wEm X 0 0 _ = EN
  have L : ∀ (n : Nat) (j : Nat), (t.length - j < n) → (j < 2 ^ 30 + 100) → (j < 2 ^ 30 ∨ j ≤ t.length) → (pSp t j = res) → WP X M_MO_pastSpaces (wR 1 0 0) 0 EN 0 0 2 [some (.ref 57), some (.int (nI k)), some (.int (nI j))] [] h := by
    intro n
    induction n with
    | zero => intro j k1 k2 k4 k3; omega
    | succ n ih =>
      intro j k1 k2 k4 k3
      refine w_aload_n d_MO_pastSpaces_2 rfl rfl ?_
      refine w_iload_n d_MO_pastSpaces_3 rfl ?_
      refine w_bipush (v := nI 32) d_MO_pastSpaces_4 (by decide) ?_
      refine w_callV (as := [.int (nI j), .int (nI 32)]) (st := []) d_MO_pastSpaces_6 yM_MO_is l_MO_83 vM_MO_is hx rfl rfl rfl rfl (m_MO_is hx htx ht31 (by omega) (by decide)) (by decide) (by decide) (by decide) (by decide) (Nat.le_of_ble_eq_true rfl) ?_
      rintro _ h9_1 ⟨rfl, e9_1⟩
      rw [e9_1]
      refine w_eq (st' := [.int (bI (decide (t[j]? = some 32)))]) rfl ?_
      refine w_if_eq (tgt := 19) d_MO_pastSpaces_9 rfl (fun c9 => ?_) (fun c9 => ?_)
      · have c9 := of_decide_eq_false (bI_f c9)
        rw [pSp_no c9] at k3
        refine w_iload_n d_MO_pastSpaces_19 rfl ?_
        rw [← hEN]
        refine w_iret d_MO_pastSpaces_20 rfl ?_
        rw [k3]
        exact ⟨rfl, rfl⟩
      · have c9 := of_decide_eq_true (bI_t c9)
        rw [pSp_32 c9] at k3
        have := lx_lt c9
        refine w_iload_n d_MO_pastSpaces_12 rfl ?_
        refine w_iconst (v := nI 1) d_MO_pastSpaces_13 (by decide) ?_
        refine w_iadd d_MO_pastSpaces_14 ?_
        refine w_topi (y := nI (j + 1)) (nI_1 _) ?_
        refine w_istore_n d_MO_pastSpaces_15 (by decide) ?_
        refine w_pl (pl' := [some (.ref 57), some (.int (nI k)), some (.int (nI (j + 1)))]) rfl ?_
        refine w_goto (tgt := 2) d_MO_pastSpaces_16 rfl ?_
        exact ih (j + 1) (by omega) (by omega) (by omega) k3
  refine w_iload_n d_MO_pastSpaces_0 rfl ?_
  refine w_istore_n d_MO_pastSpaces_1 (by decide) ?_
  refine w_pl (pl' := [some (.ref 57), some (.int (nI k)), some (.int (nI k))]) rfl ?_
  exact L (t.length + 1) k (by omega) (by omega) (by omega) hres.symm
set_option maxHeartbeats 4000000 in
set_option maxRecDepth 100000 in
theorem m_MO_letter {h : wH} {x : Int32} : PM X M_MO_letter 0 0 0 [.int (x)] h (fun z h' => z = some (.int (bI (ltI x))) ∧ h' = h) := by
  refine PM.at (pl := [some (.int (x))]) rfl rfl (by simp [wle, wen]) ?_
  generalize hEN : wEm X 0 0 _ = EN
  refine w_iload_n d_MO_letter_0 rfl ?_
  refine w_bipush (v := nI 97) d_MO_letter_1 (by decide) ?_
  suffices J28 : (ltI x = false) → WP X M_MO_letter (wR 0 0 0) 0 EN 0 0 28 [some (.int (x))] [] h by
    suffices J24 : (ltI x = true) → WP X M_MO_letter (wR 0 0 0) 0 EN 0 0 24 [some (.int (x))] [] h by
      suffices J12 : ((97 : Int32) ≤ x → x ≤ 122 → False) → WP X M_MO_letter (wR 0 0 0) 0 EN 0 0 12 [some (.int (x))] [] h by
        refine w_icmp_lt (tgt := 12) d_MO_letter_3 rfl (fun c3 => ?_) (fun c3 => ?_)
        · exact J12 (fun z _ => Int32.not_lt.mpr z c3)
        · have c3 := i32_nlt.mp c3
          refine w_iload_n d_MO_letter_6 rfl ?_
          refine w_bipush (v := nI 122) d_MO_letter_7 (by decide) ?_
          refine w_icmp_le (tgt := 24) d_MO_letter_9 rfl (fun c9 => ?_) (fun c9 => ?_)
          · exact J24 (decide_eq_true (Or.inl ⟨c3, c9⟩))
          · exact J12 (fun _ z => c9 z)
      intro hno
      refine w_iload_n d_MO_letter_12 rfl ?_
      refine w_bipush (v := nI 65) d_MO_letter_13 (by decide) ?_
      refine w_icmp_lt (tgt := 28) d_MO_letter_15 rfl (fun c15 => ?_) (fun c15 => ?_)
      · exact J28 (decide_eq_false (fun z => z.elim (fun y => hno y.1 y.2) (fun y => Int32.not_lt.mpr y.1 c15)))
      · refine w_iload_n d_MO_letter_18 rfl ?_
        refine w_bipush (v := nI 90) d_MO_letter_19 (by decide) ?_
        refine w_icmp_gt (tgt := 28) d_MO_letter_21 rfl (fun c21 => ?_) (fun c21 => ?_)
        · exact J28 (decide_eq_false (fun z => z.elim (fun y => hno y.1 y.2) (fun y => Int32.not_lt.mpr y.2 c21)))
        · exact J24 (decide_eq_true (Or.inr ⟨i32_nlt.mp c15, i32_nlt.mp c21⟩))
    intro hlt
    refine w_iconst (v := nI 1) d_MO_letter_24 (by decide) ?_
    refine w_goto (tgt := 29) d_MO_letter_25 rfl ?_
    rw [← hEN]
    refine w_zret d_MO_letter_29 rfl (by first | exact Or.inl rfl | exact Or.inr rfl) ?_
    first | (rw [hlt]; exact ⟨rfl, rfl⟩) | (rw [hlf]; exact ⟨rfl, rfl⟩)
  intro hlf
  refine w_iconst (v := nI 0) d_MO_letter_28 (by decide) ?_
  rw [← hEN]
  refine w_zret d_MO_letter_29 rfl (by first | exact Or.inl rfl | exact Or.inr rfl) ?_
  first | (rw [hlt]; exact ⟨rfl, rfl⟩) | (rw [hlf]; exact ⟨rfl, rfl⟩)
end MO9
