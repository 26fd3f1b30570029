/-! TokenRow, three: tokens: written by wip/gen/tr3.py -/
abbrev lxT : Type := Option (Option (Nat × Int32) × Nat)
def lxProp (o : Bool) (l : List Nat) (w : Nat) : lxT := if nmN l = -1 then none else some (some (if o = true then 3 else 2, nmN l), w)
def lxOpen2 (t : List Nat) (pos : Nat) (o : Bool) (q : Nat × List Nat) : lxT := if t[q.1]? = some 58 ∧ t[q.1 + 1]? = some 93 then lxProp o q.2 (q.1 + 2 - pos) else none
def lxOpen (t : List Nat) (pos : Nat) : lxT :=
  if t[pos + 1]? = some 94 then some (some (5, nI 94), 2)
  else if t[pos + 1]? = some 58 then lxOpen2 t pos (decide (t[pos + 2]? = some 94)) (nmR t (t.length - (pos + (if decide (t[pos + 2]? = some 94) = true then 3 else 2))) (pos + (if decide (t[pos + 2]? = some 94) = true then 3 else 2)) [])
  else some (some (4, cA t (pos + 1)), 1)
def lxName2 (t : List Nat) (pos : Nat) (q : Nat × List Nat) : lxT := if t[pos + 2]? = some 123 ∧ t[q.1]? = some 125 then lxProp (decide (t[pos + 1]? = some 80)) q.2 (q.1 + 1 - pos) else none
def lxName (t : List Nat) (pos : Nat) : lxT := lxName2 t pos (nmR t (t.length - (pos + 3)) (pos + 3) [])
def lxFour (t : List Nat) (pos : Nat) : lxT := if hxR t (pos + 2) 4 0 = 4 then some (some (1, hvI t (pos + 2) 4), 6) else none
def lxBr2 (t : List Nat) (pos d : Nat) : lxT := if t[pos + 2]? = some 123 ∧ ¬ d = 0 ∧ t[pos + 3 + d]? = some 125 then (if 0 ≤ hvI t (pos + 3) d ∧ hvI t (pos + 3) d < nI 1114112 then some (some (1, hvI t (pos + 3) d), d + 4) else none) else none
def lxBr (t : List Nat) (pos : Nat) : lxT := lxBr2 t pos (hxR t (pos + 3) 6 0)
def lxEsc (t : List Nat) (pos : Nat) : lxT := match t[pos + 1]? with
  | none => none
  | some c => if c = 110 then some (some (1, nI 10), 2) else if c = 116 then some (some (1, nI 9), 2) else if c = 117 then lxFour t pos else if c = 120 then lxBr t pos else if ltI (nI c) = true then none else some (some (1, nI c), 2)
/-- the token at pos, with its width; a space is none -/
def lxAt (t : List Nat) (pos c : Nat) : lxT :=
  if c = 32 then some (none, 1) else if c = 38 then some (some (10, nI c), 1) else if c = 45 then some (some (9, nI c), 1) else if c = 91 then lxOpen t pos
  else if c = 92 then (if t[pos + 1]? = some 112 ∨ t[pos + 1]? = some 80 then lxName t pos else lxEsc t pos)
  else if c = 93 then some (some (6, nI c), 1) else if c = 94 then none else if c = 123 then some (some (7, nI c), 1) else if c = 125 then some (some (8, nI c), 1) else some (some (1, nI c), 1)
def lxQ (x : lxT) (h : wH) (p : Nat) (t : List Nat) (tk : List (Nat × Int32)) (pos : Nat) : Option Value → wH → Prop := fun r h' => wOff h h' p 7 ∧ match x with
  | none => r = some (.int (nI 0)) ∧ ∃ l, hTR h' p t tk l pos
  | some (none, w) => r = some (.int (nI 1)) ∧ ∃ l, hTR h' p t tk l (pos + w)
  | some (some q, w) => r = some (.int (nI 1)) ∧ ∃ l, hTR h' p t (tk ++ [q]) l (pos + w)
theorem lxQ.tr {x : lxT} {h h1 h2 : wH} {p : Nat} {t : List Nat} {tk : List (Nat × Int32)} {pos : Nat} {r : Option Value} (a : wOff h h1 p 7) (b : lxQ x h1 p t tk pos r h2) : lxQ x h p t tk pos r h2 := ⟨a.tr b.1, b.2⟩
theorem lxQ.b01 {x : lxT} {h h2 : wH} {p : Nat} {t : List Nat} {tk : List (Nat × Int32)} {pos : Nat} {r : Option Value} (b : lxQ x h p t tk pos r h2) : r = some (.int (bI x.isSome)) := by
  obtain ⟨-, b⟩ := b
  match x, b with
  | none, b => exact b.1
  | some (none, w), b => exact b.1
  | some (some q, w), b => exact b.1
theorem nmR_le (t : List Nat) : ∀ (r k : Nat) (l : List Nat), (nmR t r k l).1 ≤ t.length
  | 0, k, l => Nat.le_refl _
  | r + 1, k, l => by
    unfold nmR
    cases hk : t[k]? with
    | none => exact Nat.le_refl _
    | some x =>
      have := (List.getElem?_eq_some_iff.mp hk).1
      dsimp only
      split
      · exact nmR_le t r (k + 1) _
      · split
        · exact nmR_le t r (k + 1) l
        · exact Nat.le_of_lt this
theorem nmR_ge (t : List Nat) {m : Nat} (hm : m ≤ t.length) : ∀ (r k : Nat) (l : List Nat), m ≤ k → m ≤ (nmR t r k l).1
  | 0, k, l, _ => hm
  | r + 1, k, l, h => by
    unfold nmR
    cases hk : t[k]? with
    | none => exact hm
    | some x =>
      dsimp only
      split
      · exact nmR_ge t hm r (k + 1) _ (by omega)
      · split
        · exact nmR_ge t hm r (k + 1) l (by omega)
        · exact h
theorem nmR_b (t : List Nat) (ht : ∀ x ∈ t, x < 1114112) : ∀ (r k : Nat) (l : List Nat), (∀ x ∈ l, x < 2 ^ 31) → ∀ x ∈ (nmR t r k l).2, x < 2 ^ 31
  | 0, k, l, h => h
  | r + 1, k, l, h => by
    unfold nmR
    cases hk : t[k]? with
    | none => exact h
    | some x =>
      dsimp only
      have hx : x ||| 32 < 2 ^ 31 := Nat.or_lt_two_pow (by have := ht x (List.mem_of_getElem? hk); omega) (by decide)
      split
      · refine nmR_b t ht r (k + 1) _ (fun y hy => ?_)
        rcases List.mem_append.mp hy with hy | hy
        · exact h y hy
        · rw [List.mem_singleton] at hy
          rw [hy]
          exact hx
      · split
        · exact nmR_b t ht r (k + 1) l h
        · exact h
theorem hxR_le (t : List Nat) (f : Nat) : ∀ r k, hxR t f r k ≤ k + r
  | 0, k => Nat.le_refl _
  | r + 1, k => by
    unfold hxR
    split
    · omega
    · have := hxR_le t f r (k + 1)
      omega
theorem ior32 {c : Nat} (hc : c < 2 ^ 21) : nI c ||| nI 32 = nI 112 ↔ (c = 112 ∨ c = 80) := by
  rw [nx_or, nI_eq (Nat.lt_trans (Nat.or_lt_two_pow hc (by decide)) (by decide)) (by decide)]
  constructor
  · intro h
    have h0 : ∀ i, (c ||| 32).testBit i = Nat.testBit 112 i := fun i => by rw [h]
    have hlt : c ≤ 112 := by
      have := @Nat.left_le_or c 32
      omega
    have key : ∀ c, c ≤ 112 → c ||| 32 = 112 → c = 112 ∨ c = 80 := by decide
    exact key c hlt h
  · rintro (rfl | rfl) <;> decide
section TR3
variable {X : wX}
set_option maxHeartbeats 4000000 in
set_option maxRecDepth 100000 in
theorem m_CP_isCodePoint {h : wH} {x : Int32} : PM X M_CP_isCodePoint 0 0 0 [.int (x)] h (fun r h' => r = some (.int (bI (decide (0 ≤ x ∧ x < nI 1114112)))) ∧ h' = h) := by
  refine PM.at (pl := [some (.int (x))]) rfl rfl (by simp [wle, wen]) ?_
  generalize hEN : wEm X 0 0 _ = EN
  refine w_iload_n d_CP_isCodePoint_0 rfl ?_
  refine w_if_lt (tgt := 14) d_CP_isCodePoint_1 rfl (fun c1 => ?_) (fun c1 => ?_)
  · refine w_iconst (v := nI 0) d_CP_isCodePoint_14 (by decide) ?_
    rw [← hEN]
    refine w_zret d_CP_isCodePoint_15 rfl (by first | exact Or.inl rfl | exact Or.inr rfl) ?_
    first | (rw [decide_eq_true ⟨i32_nlt.mp c1, i32_nle.mp c7⟩]; exact ⟨rfl, rfl⟩) | (rw [decide_eq_false (fun z => absurd z.1 (i32_nle.mpr c1))]; exact ⟨rfl, rfl⟩) | (rw [decide_eq_false (fun z => absurd z.2 (i32_nlt.mpr c7))]; exact ⟨rfl, rfl⟩)
  · refine w_iload_n d_CP_isCodePoint_4 rfl ?_
    refine w_ldc (v := nI 1114112) d_CP_isCodePoint_5 k_CP_152 ?_
    refine w_icmp_ge (tgt := 14) d_CP_isCodePoint_7 rfl (fun c7 => ?_) (fun c7 => ?_)
    · refine w_iconst (v := nI 0) d_CP_isCodePoint_14 (by decide) ?_
      rw [← hEN]
      refine w_zret d_CP_isCodePoint_15 rfl (by first | exact Or.inl rfl | exact Or.inr rfl) ?_
      first | (rw [decide_eq_true ⟨i32_nlt.mp c1, i32_nle.mp c7⟩]; exact ⟨rfl, rfl⟩) | (rw [decide_eq_false (fun z => absurd z.1 (i32_nle.mpr c1))]; exact ⟨rfl, rfl⟩) | (rw [decide_eq_false (fun z => absurd z.2 (i32_nlt.mpr c7))]; exact ⟨rfl, rfl⟩)
    · refine w_iconst (v := nI 1) d_CP_isCodePoint_10 (by decide) ?_
      refine w_goto (tgt := 15) d_CP_isCodePoint_11 rfl ?_
      rw [← hEN]
      refine w_zret d_CP_isCodePoint_15 rfl (by first | exact Or.inl rfl | exact Or.inr rfl) ?_
      first | (rw [decide_eq_true ⟨i32_nlt.mp c1, i32_nle.mp c7⟩]; exact ⟨rfl, rfl⟩) | (rw [decide_eq_false (fun z => absurd z.1 (i32_nle.mpr c1))]; exact ⟨rfl, rfl⟩) | (rw [decide_eq_false (fun z => absurd z.2 (i32_nlt.mpr c7))]; exact ⟨rfl, rfl⟩)
set_option maxHeartbeats 4000000 in
set_option maxRecDepth 100000 in
theorem m_TR_addProperty {h : wH} {p pos : Nat} {t l : List Nat} {tk : List (Nat × Int32)} (hm : hTR h p t tk l pos) (hlen : tk.length < 60) (ht : ∀ x ∈ t, x < 1114112) {o : Bool} {wd : Nat} (hlb : ∀ x ∈ l, x < 2 ^ 31) : PM X M_TR_addProperty 6 0 0 [.ref p, .int (bI o), .int (nI wd)] h (lxQ (lxProp o l wd) h p t tk pos) := by
  have hhm := hm; obtain ⟨fk, fv, hp, htx, hkk, hvv, hlt, hl60, hfk⟩ := hm; have htx0 := htx; obtain ⟨tf, tp, ta, tl, thf⟩ := htx; have hlt0 := hlt; obtain ⟨lf, lp, la, ll, lhf⟩ := hlt
  have ht31 : ∀ x ∈ t, x < 2 ^ 31 := fun x hx => by have := ht x hx; omega
  refine PM.at (pl := [some (.ref p), some (.int (bI o)), some (.int (nI wd)), none]) rfl rfl (by simp [wle, wen]) ?_
  generalize hEN : wEm X 0 0 _ = EN
  refine w_aload_n d_TR_addProperty_0 rfl rfl ?_
  refine w_get d_TR_addProperty_1 f_TR_25 hp rfl ?_
  refine w_callS (as := [.ref (p + 5)]) (st := []) d_TR_addProperty_4 yM_NS_numberOf l_TR_97 sM_NS_numberOf rfl rfl (m_NS_numberOf hlt0 hlb) (by decide) (by decide) (by decide) (by decide) (Nat.le_of_ble_eq_true rfl) ?_
  rintro _ h9_1 ⟨rfl, e9_1⟩
  rw [e9_1]
  refine w_eq (st' := [.int (nmN l)]) rfl ?_
  refine w_istore_n d_TR_addProperty_7 (by decide) ?_
  refine w_pl (pl' := [some (.ref p), some (.int (bI o)), some (.int (nI wd)), some (.int (nmN l))]) rfl ?_
  refine w_iload_n d_TR_addProperty_8 rfl ?_
  refine w_iconst (v := -1) d_TR_addProperty_9 (by decide) ?_
  suffices J35 : nmN l = -1 → WP X M_TR_addProperty (wR 6 0 0) 0 EN 0 0 35 [some (.ref p), some (.int (bI o)), some (.int (nI wd)), some (.int (nmN l))] [] h by
    refine w_icmp_eq (tgt := 35) d_TR_addProperty_10 rfl (fun c10 => ?_) (fun c10 => ?_)
    · exact J35 c10
    · refine w_aload_n d_TR_addProperty_13 rfl rfl ?_
      refine w_iload_n d_TR_addProperty_14 rfl ?_
      suffices J23 : WP X M_TR_addProperty (wR 6 0 0) 0 EN 0 0 23 [some (.ref p), some (.int (bI o)), some (.int (nI wd)), some (.int (nmN l))] [.int (nI (if o = true then 3 else 2)), .ref p] h by
        refine w_if_eq (tgt := 22) d_TR_addProperty_15 rfl (fun c15 => ?_) (fun c15 => ?_)
        · have c15 := bI_f c15
          refine w_iconst (v := nI 2) d_TR_addProperty_22 (by decide) ?_
          rw [if_neg (by rw [c15]; decide)] at J23; exact J23
        · have c15 := bI_t c15
          refine w_iconst (v := nI 3) d_TR_addProperty_18 (by decide) ?_
          refine w_goto (tgt := 23) d_TR_addProperty_19 rfl ?_
          rw [if_pos c15] at J23; exact J23
      refine w_iload_n d_TR_addProperty_23 rfl ?_
      refine w_iload_n d_TR_addProperty_24 rfl ?_
      refine w_callV (as := [.int (nI (if o = true then 3 else 2)), .int (nmN l), .int (nI wd)]) (st := []) d_TR_addProperty_25 yM_TR_add l_TR_54 vM_TR_add hp rfl rfl rfl rfl (m_TR_add hhm hlen) (by decide) (by decide) (by decide) (by decide) (Nat.le_of_ble_eq_true rfl) ?_
      rintro _ g1 ⟨rfl, a1, b1⟩
      refine w_eq (st' := [.int (nI 1)]) rfl ?_
      refine w_if_eq (tgt := 35) d_TR_addProperty_28 rfl (fun z => absurd z (by decide)) (fun _ => ?_)
      refine w_iconst (v := nI 1) d_TR_addProperty_31 (by decide) ?_
      refine w_goto (tgt := 36) d_TR_addProperty_32 rfl ?_
      rw [← hEN]
      refine w_zret d_TR_addProperty_36 rfl (by first | exact Or.inl rfl | exact Or.inr rfl) ?_
      first
        | (unfold lxProp; rw [if_pos hneg]; exact ⟨wOff.rf, rfl, l, hhm⟩)
        | (unfold lxProp; rw [if_neg c10]; exact ⟨b1, rfl, l, a1⟩)
  intro hneg
  refine w_iconst (v := nI 0) d_TR_addProperty_35 (by decide) ?_
  rw [← hEN]
  refine w_zret d_TR_addProperty_36 rfl (by first | exact Or.inl rfl | exact Or.inr rfl) ?_
  first
    | (unfold lxProp; rw [if_pos hneg]; exact ⟨wOff.rf, rfl, l, hhm⟩)
    | (unfold lxProp; rw [if_neg c10]; exact ⟨b1, rfl, l, a1⟩)
set_option maxHeartbeats 4000000 in
set_option maxRecDepth 100000 in
theorem m_TR_takeFour {h : wH} {p pos : Nat} {t l : List Nat} {tk : List (Nat × Int32)} (hm : hTR h p t tk l pos) (hpos : pos < t.length) (hlen : tk.length < 60) (ht : ∀ x ∈ t, x < 1114112) : PM X M_TR_takeFourDigits 2 0 0 [.ref p] h (lxQ (lxFour t pos) h p t tk pos) := by
  have hhm := hm; obtain ⟨fk, fv, hp, htx, hkk, hvv, hlt, hl60, hfk⟩ := hm; have htx0 := htx; obtain ⟨tf, tp, ta, tl, thf⟩ := htx; have hlt0 := hlt; obtain ⟨lf, lp, la, ll, lhf⟩ := hlt
  have ht31 : ∀ x ∈ t, x < 2 ^ 31 := fun x hx => by have := ht x hx; omega
  refine PM.at (pl := [some (.ref p), none]) rfl rfl (by simp [wle, wen]) ?_
  generalize hEN : wEm X 0 0 _ = EN
  refine w_aload_n d_TR_takeFourDigits_0 rfl rfl ?_
  refine w_get d_TR_takeFourDigits_1 f_TR_40 hp rfl ?_
  refine w_iconst (v := nI 2) d_TR_takeFourDigits_4 (by decide) ?_
  refine w_iadd d_TR_takeFourDigits_5 ?_
  refine w_topi (y := nI (pos + 2)) (nI_add _ _) ?_
  refine w_istore_n d_TR_takeFourDigits_6 (by decide) ?_
  refine w_pl (pl' := [some (.ref p), some (.int (nI (pos + 2)))]) rfl ?_
  refine w_aload_n d_TR_takeFourDigits_7 rfl rfl ?_
  refine w_iload_n d_TR_takeFourDigits_8 rfl ?_
  refine w_iconst (v := nI 4) d_TR_takeFourDigits_9 (by decide) ?_
  refine w_callV (as := [.int (nI (pos + 2)), .int (nI 4)]) (st := []) d_TR_takeFourDigits_10 yM_TR_countHexDigits l_TR_81 vM_TR_countHexDigits hp rfl rfl rfl rfl (m_TR_countHex hhm (by omega) (by decide)) (by decide) (by decide) (by decide) (by decide) (Nat.le_of_ble_eq_true rfl) ?_
  rintro _ h9_1 ⟨rfl, e9_1⟩
  rw [e9_1]
  refine w_eq (st' := [.int (nI (hxR t (pos + 2) 4 0))]) rfl ?_
  have hle := hxR_le t (pos + 2) 4 0
  refine w_iconst (v := nI 4) d_TR_takeFourDigits_13 (by decide) ?_
  refine w_icmp_ne (tgt := 37) d_TR_takeFourDigits_14 rfl (fun c14 => ?_) (fun c14 => ?_)
  · have c14 : ¬ hxR t (pos + 2) 4 0 = 4 := fun z => c14 (by rw [z])
    refine w_iconst (v := nI 0) d_TR_takeFourDigits_37 (by decide) ?_
    rw [← hEN]
    refine w_zret d_TR_takeFourDigits_38 rfl (by first | exact Or.inl rfl | exact Or.inr rfl) ?_
    unfold lxFour
    first
      | (rw [if_neg c14]; exact ⟨wOff.rf, rfl, l, hhm⟩)
      | (rw [if_pos c14]; exact ⟨b1, rfl, l, a1⟩)
  · have c14 : hxR t (pos + 2) 4 0 = 4 := (nI_eq (by omega) (by decide)).mp c14
    refine w_aload_n d_TR_takeFourDigits_17 rfl rfl ?_
    refine w_iconst (v := nI 1) d_TR_takeFourDigits_18 (by decide) ?_
    refine w_aload_n d_TR_takeFourDigits_19 rfl rfl ?_
    refine w_iload_n d_TR_takeFourDigits_20 rfl ?_
    refine w_iconst (v := nI 4) d_TR_takeFourDigits_21 (by decide) ?_
    refine w_callV (as := [.int (nI (pos + 2)), .int (nI 4)]) (st := [.int (nI 1), .ref p]) d_TR_takeFourDigits_22 yM_TR_hexValue l_TR_85 vM_TR_hexValue hp rfl rfl rfl rfl (m_TR_hexValue hhm (by omega) (by decide)) (by decide) (by decide) (by decide) (by decide) (Nat.le_of_ble_eq_true rfl) ?_
    rintro _ h9_2 ⟨rfl, e9_2⟩
    rw [e9_2]
    refine w_eq (st' := [.int (hvI t (pos + 2) 4), .int (nI 1), .ref p]) rfl ?_
    refine w_bipush (v := nI 6) d_TR_takeFourDigits_25 (by decide) ?_
    refine w_callV (as := [.int (nI 1), .int (hvI t (pos + 2) 4), .int (nI 6)]) (st := []) d_TR_takeFourDigits_27 yM_TR_add l_TR_54 vM_TR_add hp rfl rfl rfl rfl (m_TR_add hhm hlen) (by decide) (by decide) (by decide) (by decide) (Nat.le_of_ble_eq_true rfl) ?_
    rintro _ g1 ⟨rfl, a1, b1⟩
    refine w_eq (st' := [.int (nI 1)]) rfl ?_
    refine w_if_eq (tgt := 37) d_TR_takeFourDigits_30 rfl (fun z => absurd z (by decide)) (fun _ => ?_)
    refine w_iconst (v := nI 1) d_TR_takeFourDigits_33 (by decide) ?_
    refine w_goto (tgt := 38) d_TR_takeFourDigits_34 rfl ?_
    rw [← hEN]
    refine w_zret d_TR_takeFourDigits_38 rfl (by first | exact Or.inl rfl | exact Or.inr rfl) ?_
    unfold lxFour
    first
      | (rw [if_neg c14]; exact ⟨wOff.rf, rfl, l, hhm⟩)
      | (rw [if_pos c14]; exact ⟨b1, rfl, l, a1⟩)
set_option maxHeartbeats 4000000 in
set_option maxRecDepth 100000 in
theorem m_TR_takeBraced {h : wH} {p pos : Nat} {t l : List Nat} {tk : List (Nat × Int32)} (hm : hTR h p t tk l pos) (hpos : pos < t.length) (hlen : tk.length < 60) (ht : ∀ x ∈ t, x < 1114112) : PM X M_TR_takeBracedDigits 2 0 0 [.ref p] h (lxQ (lxBr t pos) h p t tk pos) := by
  have hhm := hm; obtain ⟨fk, fv, hp, htx, hkk, hvv, hlt, hl60, hfk⟩ := hm; have htx0 := htx; obtain ⟨tf, tp, ta, tl, thf⟩ := htx; have hlt0 := hlt; obtain ⟨lf, lp, la, ll, lhf⟩ := hlt
  have ht31 : ∀ x ∈ t, x < 2 ^ 31 := fun x hx => by have := ht x hx; omega
  unfold lxBr
  have hle := hxR_le t (pos + 3) 6 0
  generalize hd9 : hxR t (pos + 3) 6 0 = d at hle ⊢
  refine PM.at (pl := [some (.ref p), none, none, none]) rfl rfl (by simp [wle, wen]) ?_
  generalize hEN : wEm X 0 0 _ = EN
  refine w_aload_n d_TR_takeBracedDigits_0 rfl rfl ?_
  refine w_get d_TR_takeBracedDigits_1 f_TR_40 hp rfl ?_
  refine w_iconst (v := nI 3) d_TR_takeBracedDigits_4 (by decide) ?_
  refine w_iadd d_TR_takeBracedDigits_5 ?_
  refine w_topi (y := nI (pos + 3)) (nI_add _ _) ?_
  refine w_istore_n d_TR_takeBracedDigits_6 (by decide) ?_
  refine w_pl (pl' := [some (.ref p), some (.int (nI (pos + 3))), none, none]) rfl ?_
  refine w_aload_n d_TR_takeBracedDigits_7 rfl rfl ?_
  refine w_iload_n d_TR_takeBracedDigits_8 rfl ?_
  refine w_bipush (v := nI 6) d_TR_takeBracedDigits_9 (by decide) ?_
  refine w_callV (as := [.int (nI (pos + 3)), .int (nI 6)]) (st := []) d_TR_takeBracedDigits_11 yM_TR_countHexDigits l_TR_81 vM_TR_countHexDigits hp rfl rfl rfl rfl (m_TR_countHex hhm (by omega) (by decide)) (by decide) (by decide) (by decide) (by decide) (Nat.le_of_ble_eq_true rfl) ?_
  rintro _ h9_1 ⟨rfl, e9_1⟩
  rw [e9_1]
  refine w_eq (st' := [.int (nI (hxR t (pos + 3) 6 0))]) rfl ?_
  refine w_topi (y := nI d) (by rw [hd9]) ?_
  refine w_istore_n d_TR_takeBracedDigits_14 (by decide) ?_
  refine w_pl (pl' := [some (.ref p), some (.int (nI (pos + 3))), some (.int (nI d)), none]) rfl ?_
  refine w_aload_n d_TR_takeBracedDigits_15 rfl rfl ?_
  refine w_get d_TR_takeBracedDigits_16 f_TR_12 hp rfl ?_
  refine w_iload_n d_TR_takeBracedDigits_19 rfl ?_
  refine w_iconst (v := nI 1) d_TR_takeBracedDigits_20 (by decide) ?_
  refine w_isub d_TR_takeBracedDigits_21 ?_
  refine w_topi (y := nI (pos + 3 - 1)) (pk_sub (by omega)) ?_
  refine w_callV (as := [.int (nI (pos + 3 - 1))]) (st := []) d_TR_takeBracedDigits_22 yM_CR_codeAt l_TR_43 vM_CR_codeAt tp rfl rfl rfl rfl (m_CR_codeN htx0 (by omega)) (by decide) (by decide) (by decide) (by decide) (Nat.le_of_ble_eq_true rfl) ?_
  rintro _ h9_2 ⟨rfl, e9_2⟩
  rw [e9_2]
  refine w_eq (st' := [.int (cA t (pos + 3 - 1))]) rfl ?_
  refine w_bipush (v := nI 123) d_TR_takeBracedDigits_25 (by decide) ?_
  suffices J49 : ¬ (t[pos + 2]? = some 123 ∧ ¬ d = 0 ∧ t[pos + 3 + d]? = some 125) → WP X M_TR_takeBracedDigits (wR 2 0 0) 0 EN 0 0 49 [some (.ref p), some (.int (nI (pos + 3))), some (.int (nI d)), none] [] h by
    refine w_icmp_ne (tgt := 49) d_TR_takeBracedDigits_27 rfl (fun c27 => ?_) (fun c27 => ?_)
    · have c27 : ¬ t[pos + 3 - 1]? = some 123 := fun z => c27 ((cA_eq ht31 (by decide)).mpr z)
      exact J49 (fun z => c27 z.1)
    · have c27 : t[pos + 3 - 1]? = some 123 := (cA_eq ht31 (by decide)).mp c27
      refine w_iload_n d_TR_takeBracedDigits_30 rfl ?_
      refine w_if_eq (tgt := 49) d_TR_takeBracedDigits_31 rfl (fun c31 => ?_) (fun c31 => ?_)
      · have c31 : d = 0 := by
          rcases Nat.eq_zero_or_pos d with z | z
          · exact z
          · exact absurd c31 (nI_ne0 z (by omega))
        exact J49 (fun z => z.2.1 c31)
      · have c31 : ¬ d = 0 := fun z => c31 (by rw [z]; decide)
        refine w_aload_n d_TR_takeBracedDigits_34 rfl rfl ?_
        refine w_get d_TR_takeBracedDigits_35 f_TR_12 hp rfl ?_
        refine w_iload_n d_TR_takeBracedDigits_38 rfl ?_
        refine w_iload_n d_TR_takeBracedDigits_39 rfl ?_
        refine w_iadd d_TR_takeBracedDigits_40 ?_
        refine w_topi (y := nI (pos + 3 + d)) (nI_add _ _) ?_
        refine w_callV (as := [.int (nI (pos + 3 + d))]) (st := []) d_TR_takeBracedDigits_41 yM_CR_codeAt l_TR_43 vM_CR_codeAt tp rfl rfl rfl rfl (m_CR_codeN htx0 (by omega)) (by decide) (by decide) (by decide) (by decide) (Nat.le_of_ble_eq_true rfl) ?_
        rintro _ h9_3 ⟨rfl, e9_3⟩
        rw [e9_3]
        refine w_eq (st' := [.int (cA t (pos + 3 + d))]) rfl ?_
        refine w_bipush (v := nI 125) d_TR_takeBracedDigits_44 (by decide) ?_
        refine w_icmp_eq (tgt := 51) d_TR_takeBracedDigits_46 rfl (fun c46 => ?_) (fun c46 => ?_)
        · have c46 : t[pos + 3 + d]? = some 125 := (cA_eq ht31 (by decide)).mp c46
          refine w_aload_n d_TR_takeBracedDigits_51 rfl rfl ?_
          refine w_iload_n d_TR_takeBracedDigits_52 rfl ?_
          refine w_iload_n d_TR_takeBracedDigits_53 rfl ?_
          refine w_callV (as := [.int (nI (pos + 3)), .int (nI d)]) (st := []) d_TR_takeBracedDigits_54 yM_TR_hexValue l_TR_85 vM_TR_hexValue hp rfl rfl rfl rfl (m_TR_hexValue hhm (by omega) (by omega)) (by decide) (by decide) (by decide) (by decide) (Nat.le_of_ble_eq_true rfl) ?_
          rintro _ h9_4 ⟨rfl, e9_4⟩
          rw [e9_4]
          refine w_eq (st' := [.int (hvI t (pos + 3) d)]) rfl ?_
          refine w_istore_n d_TR_takeBracedDigits_57 (by decide) ?_
          refine w_pl (pl' := [some (.ref p), some (.int (nI (pos + 3))), some (.int (nI d)), some (.int (hvI t (pos + 3) d))]) rfl ?_
          refine w_iload_n d_TR_takeBracedDigits_58 rfl ?_
          refine w_callS (as := [.int (hvI t (pos + 3) d)]) (st := []) d_TR_takeBracedDigits_59 yM_CP_isCodePoint l_TR_88 sM_CP_isCodePoint rfl rfl (m_CP_isCodePoint) (by decide) (by decide) (by decide) (by decide) (Nat.le_of_ble_eq_true rfl) ?_
          rintro _ h9_5 ⟨rfl, e9_5⟩
          rw [e9_5]
          refine w_eq (st' := [.int (bI (decide (0 ≤ hvI t (pos + 3) d ∧ hvI t (pos + 3) d < nI 1114112)))]) rfl ?_
          refine w_if_eq (tgt := 81) d_TR_takeBracedDigits_62 rfl (fun c62 => ?_) (fun c62 => ?_)
          · have c62 := of_decide_eq_false (bI_f c62)
            refine w_iconst (v := nI 0) d_TR_takeBracedDigits_81 (by decide) ?_
            rw [← hEN]
            refine w_zret d_TR_takeBracedDigits_82 rfl (by first | exact Or.inl rfl | exact Or.inr rfl) ?_
            unfold lxBr2
            rw [if_pos ⟨c27, c31, c46⟩]
            first
              | (rw [if_neg c62]; exact ⟨wOff.rf, rfl, l, hhm⟩)
              | (rw [if_pos c62]; exact ⟨b1, rfl, l, a1⟩)
          · have c62 := of_decide_eq_true (bI_t c62)
            refine w_aload_n d_TR_takeBracedDigits_65 rfl rfl ?_
            refine w_iconst (v := nI 1) d_TR_takeBracedDigits_66 (by decide) ?_
            refine w_iload_n d_TR_takeBracedDigits_67 rfl ?_
            refine w_iload_n d_TR_takeBracedDigits_68 rfl ?_
            refine w_iconst (v := nI 4) d_TR_takeBracedDigits_69 (by decide) ?_
            refine w_iadd d_TR_takeBracedDigits_70 ?_
            refine w_topi (y := nI (d + 4)) (nI_add _ _) ?_
            refine w_callV (as := [.int (nI 1), .int (hvI t (pos + 3) d), .int (nI (d + 4))]) (st := []) d_TR_takeBracedDigits_71 yM_TR_add l_TR_54 vM_TR_add hp rfl rfl rfl rfl (m_TR_add hhm hlen) (by decide) (by decide) (by decide) (by decide) (Nat.le_of_ble_eq_true rfl) ?_
            rintro _ g1 ⟨rfl, a1, b1⟩
            refine w_eq (st' := [.int (nI 1)]) rfl ?_
            refine w_if_eq (tgt := 81) d_TR_takeBracedDigits_74 rfl (fun z => absurd z (by decide)) (fun _ => ?_)
            refine w_iconst (v := nI 1) d_TR_takeBracedDigits_77 (by decide) ?_
            refine w_goto (tgt := 82) d_TR_takeBracedDigits_78 rfl ?_
            rw [← hEN]
            refine w_zret d_TR_takeBracedDigits_82 rfl (by first | exact Or.inl rfl | exact Or.inr rfl) ?_
            unfold lxBr2
            rw [if_pos ⟨c27, c31, c46⟩]
            first
              | (rw [if_neg c62]; exact ⟨wOff.rf, rfl, l, hhm⟩)
              | (rw [if_pos c62]; exact ⟨b1, rfl, l, a1⟩)
        · have c46 : ¬ t[pos + 3 + d]? = some 125 := fun z => c46 ((cA_eq ht31 (by decide)).mpr z)
          exact J49 (fun z => c46 z.2.2)
  intro hno
  refine w_iconst (v := nI 0) d_TR_takeBracedDigits_49 (by decide) ?_
  rw [← hEN]
  refine w_zret d_TR_takeBracedDigits_50 rfl (by first | exact Or.inl rfl | exact Or.inr rfl) ?_
  unfold lxBr2
  rw [if_neg hno]
  exact ⟨wOff.rf, rfl, l, hhm⟩
set_option maxHeartbeats 4000000 in
set_option maxRecDepth 100000 in
theorem m_TR_takeName {h : wH} {p pos : Nat} {t l : List Nat} {tk : List (Nat × Int32)} (hm : hTR h p t tk l pos) (hpos : pos < t.length) (hlen : tk.length < 60) (ht : ∀ x ∈ t, x < 1114112) : PM X M_TR_takeBracedName 7 0 0 [.ref p] h (lxQ (lxName t pos) h p t tk pos) := by
  have hhm := hm; obtain ⟨fk, fv, hp, htx, hkk, hvv, hlt, hl60, hfk⟩ := hm; have htx0 := htx; obtain ⟨tf, tp, ta, tl, thf⟩ := htx; have hlt0 := hlt; obtain ⟨lf, lp, la, ll, lhf⟩ := hlt
  have ht31 : ∀ x ∈ t, x < 2 ^ 31 := fun x hx => by have := ht x hx; omega
  unfold lxName
  have hq1 := nmR_le t (t.length - (pos + 3)) (pos + 3) []
  have hq2 := nmR_ge t (Nat.le_of_lt hpos) (t.length - (pos + 3)) (pos + 3) [] (by omega)
  have hq3 := nmR_b t ht (t.length - (pos + 3)) (pos + 3) [] (fun x hx => by cases hx)
  have hcn := m_TR_collectName (X := X) (f := pos + 3) hhm (by omega) ht31
  generalize nmR t (t.length - (pos + 3)) (pos + 3) [] = q at hq1 hq2 hq3 hcn ⊢
  refine PM.at (pl := [some (.ref p), none]) rfl rfl (by simp [wle, wen]) ?_
  generalize hEN : wEm X 0 0 _ = EN
  refine w_aload_n d_TR_takeBracedName_0 rfl rfl ?_
  refine w_aload_n d_TR_takeBracedName_1 rfl rfl ?_
  refine w_get d_TR_takeBracedName_2 f_TR_40 hp rfl ?_
  refine w_iconst (v := nI 3) d_TR_takeBracedName_5 (by decide) ?_
  refine w_iadd d_TR_takeBracedName_6 ?_
  refine w_topi (y := nI (pos + 3)) (nI_add _ _) ?_
  refine w_callV (as := [.int (nI (pos + 3))]) (st := []) d_TR_takeBracedName_7 yM_TR_collectName l_TR_64 vM_TR_collectName hp rfl rfl rfl rfl (hcn) (by decide) (by decide) (by decide) (by decide) (Nat.le_of_ble_eq_true rfl) ?_
  rintro _ h1 ⟨rfl, km, ko⟩
  refine w_eq (st' := [.int (nI q.1)]) rfl ?_
  have khm := km; obtain ⟨kfk, kfv, khp, khtx, khkk, khvv, khlt, khl60, khfk⟩ := km; have khtx0 := khtx; obtain ⟨ktf, ktp, kta, ktl, kthf⟩ := khtx; have khlt0 := khlt; obtain ⟨klf, klp, kla, kll, klhf⟩ := khlt
  refine w_istore_n d_TR_takeBracedName_10 (by decide) ?_
  refine w_pl (pl' := [some (.ref p), some (.int (nI q.1))]) rfl ?_
  refine w_aload_n d_TR_takeBracedName_11 rfl rfl ?_
  refine w_get d_TR_takeBracedName_12 f_TR_12 khp rfl ?_
  refine w_aload_n d_TR_takeBracedName_15 rfl rfl ?_
  refine w_get d_TR_takeBracedName_16 f_TR_40 khp rfl ?_
  refine w_iconst (v := nI 2) d_TR_takeBracedName_19 (by decide) ?_
  refine w_iadd d_TR_takeBracedName_20 ?_
  refine w_topi (y := nI (pos + 2)) (nI_add _ _) ?_
  refine w_callV (as := [.int (nI (pos + 2))]) (st := []) d_TR_takeBracedName_21 yM_CR_codeAt l_TR_43 vM_CR_codeAt ktp rfl rfl rfl rfl (m_CR_codeN khtx0 (by omega)) (by decide) (by decide) (by decide) (by decide) (Nat.le_of_ble_eq_true rfl) ?_
  rintro _ h9_1 ⟨rfl, e9_1⟩
  rw [e9_1]
  refine w_eq (st' := [.int (cA t (pos + 2))]) rfl ?_
  refine w_bipush (v := nI 123) d_TR_takeBracedName_24 (by decide) ?_
  suffices J42 : ¬ (t[pos + 2]? = some 123 ∧ t[q.1]? = some 125) → WP X M_TR_takeBracedName (wR 7 0 0) 0 EN 0 0 42 [some (.ref p), some (.int (nI q.1))] [] h1 by
    refine w_icmp_ne (tgt := 42) d_TR_takeBracedName_26 rfl (fun c26 => ?_) (fun c26 => ?_)
    · have c26 : ¬ t[pos + 2]? = some 123 := fun z => c26 ((cA_eq ht31 (by decide)).mpr z)
      exact J42 (fun z => c26 z.1)
    · have c26 : t[pos + 2]? = some 123 := (cA_eq ht31 (by decide)).mp c26
      refine w_aload_n d_TR_takeBracedName_29 rfl rfl ?_
      refine w_get d_TR_takeBracedName_30 f_TR_12 khp rfl ?_
      refine w_iload_n d_TR_takeBracedName_33 rfl ?_
      refine w_callV (as := [.int (nI q.1)]) (st := []) d_TR_takeBracedName_34 yM_CR_codeAt l_TR_43 vM_CR_codeAt ktp rfl rfl rfl rfl (m_CR_codeN khtx0 (by omega)) (by decide) (by decide) (by decide) (by decide) (Nat.le_of_ble_eq_true rfl) ?_
      rintro _ h9_2 ⟨rfl, e9_2⟩
      rw [e9_2]
      refine w_eq (st' := [.int (cA t (q.1))]) rfl ?_
      refine w_bipush (v := nI 125) d_TR_takeBracedName_37 (by decide) ?_
      refine w_icmp_eq (tgt := 44) d_TR_takeBracedName_39 rfl (fun c39 => ?_) (fun c39 => ?_)
      · have c39 : t[q.1]? = some 125 := (cA_eq ht31 (by decide)).mp c39
        refine w_aload_n d_TR_takeBracedName_44 rfl rfl ?_
        refine w_aload_n d_TR_takeBracedName_45 rfl rfl ?_
        refine w_get d_TR_takeBracedName_46 f_TR_12 khp rfl ?_
        refine w_aload_n d_TR_takeBracedName_49 rfl rfl ?_
        refine w_get d_TR_takeBracedName_50 f_TR_40 khp rfl ?_
        refine w_iconst (v := nI 1) d_TR_takeBracedName_53 (by decide) ?_
        refine w_iadd d_TR_takeBracedName_54 ?_
        refine w_topi (y := nI (pos + 1)) (nI_add _ _) ?_
        refine w_callV (as := [.int (nI (pos + 1))]) (st := [.ref p]) d_TR_takeBracedName_55 yM_CR_codeAt l_TR_43 vM_CR_codeAt ktp rfl rfl rfl rfl (m_CR_codeN khtx0 (by omega)) (by decide) (by decide) (by decide) (by decide) (Nat.le_of_ble_eq_true rfl) ?_
        rintro _ h9_3 ⟨rfl, e9_3⟩
        rw [e9_3]
        refine w_eq (st' := [.int (cA t (pos + 1)), .ref p]) rfl ?_
        refine w_bipush (v := nI 80) d_TR_takeBracedName_58 (by decide) ?_
        suffices J68 : WP X M_TR_takeBracedName (wR 7 0 0) 0 EN 0 0 68 [some (.ref p), some (.int (nI q.1))] [.int (bI (decide (t[pos + 1]? = some 80))), .ref p] h1 by
          refine w_icmp_ne (tgt := 67) d_TR_takeBracedName_60 rfl (fun c60 => ?_) (fun c60 => ?_)
          · have c60 : ¬ t[pos + 1]? = some 80 := fun z => c60 ((cA_eq ht31 (by decide)).mpr z)
            refine w_iconst (v := nI 0) d_TR_takeBracedName_67 (by decide) ?_
            rw [decide_eq_false c60] at J68; exact J68
          · have c60 : t[pos + 1]? = some 80 := (cA_eq ht31 (by decide)).mp c60
            refine w_iconst (v := nI 1) d_TR_takeBracedName_63 (by decide) ?_
            refine w_goto (tgt := 68) d_TR_takeBracedName_64 rfl ?_
            rw [decide_eq_true c60] at J68; exact J68
        refine w_iload_n d_TR_takeBracedName_68 rfl ?_
        refine w_iconst (v := nI 1) d_TR_takeBracedName_69 (by decide) ?_
        refine w_iadd d_TR_takeBracedName_70 ?_
        refine w_topi (y := nI (q.1 + 1)) (nI_add _ _) ?_
        refine w_aload_n d_TR_takeBracedName_71 rfl rfl ?_
        refine w_get d_TR_takeBracedName_72 f_TR_40 khp rfl ?_
        refine w_isub d_TR_takeBracedName_75 ?_
        refine w_topi (y := nI (q.1 + 1 - pos)) (pk_sub (by omega)) ?_
        refine w_callV (as := [.int (bI (decide (t[pos + 1]? = some 80))), .int (nI (q.1 + 1 - pos))]) (st := []) d_TR_takeBracedName_76 yM_TR_addProperty l_TR_67 vM_TR_addProperty khp rfl rfl rfl rfl (m_TR_addProperty khm hlen ht hq3) (by decide) (by decide) (by decide) (by decide) (Nat.le_of_ble_eq_true rfl) ?_
        rintro rv h2 hlx
        have hlb := hlx.b01
        rw [hlb]
        refine w_eq (st' := [.int (bI (lxProp (decide (t[pos + 1]? = some 80)) q.2 (q.1 + 1 - pos)).isSome)]) rfl ?_
        rw [← hEN]
        refine w_zret d_TR_takeBracedName_79 rfl (bI_01 _) ?_
        unfold lxName2
        rw [if_pos ⟨c26, c39⟩, ← hlb]
        exact hlx.tr ko
      · have c39 : ¬ t[q.1]? = some 125 := fun z => c39 ((cA_eq ht31 (by decide)).mpr z)
        exact J42 (fun z => c39 z.2)
  intro hno
  refine w_iconst (v := nI 0) d_TR_takeBracedName_42 (by decide) ?_
  rw [← hEN]
  refine w_zret d_TR_takeBracedName_43 rfl (by first | exact Or.inl rfl | exact Or.inr rfl) ?_
  unfold lxName2
  rw [if_neg hno]
  exact ⟨ko, rfl, q.2, khm⟩
set_option maxHeartbeats 4000000 in
set_option maxRecDepth 100000 in
theorem m_TR_takeOpening {h : wH} {p pos : Nat} {t l : List Nat} {tk : List (Nat × Int32)} (hm : hTR h p t tk l pos) (hpos : pos < t.length) (hlen : tk.length < 60) (ht : ∀ x ∈ t, x < 1114112) : PM X M_TR_takeOpening 7 0 0 [.ref p] h (lxQ (lxOpen t pos) h p t tk pos) := by
  have hhm := hm; obtain ⟨fk, fv, hp, htx, hkk, hvv, hlt, hl60, hfk⟩ := hm; have htx0 := htx; obtain ⟨tf, tp, ta, tl, thf⟩ := htx; have hlt0 := hlt; obtain ⟨lf, lp, la, ll, lhf⟩ := hlt
  have ht31 : ∀ x ∈ t, x < 2 ^ 31 := fun x hx => by have := ht x hx; omega
  refine PM.at (pl := [some (.ref p), none, none, none]) rfl rfl (by simp [wle, wen]) ?_
  generalize hEN : wEm X 0 0 _ = EN
  refine w_aload_n d_TR_takeOpening_0 rfl rfl ?_
  refine w_get d_TR_takeOpening_1 f_TR_12 hp rfl ?_
  refine w_aload_n d_TR_takeOpening_4 rfl rfl ?_
  refine w_get d_TR_takeOpening_5 f_TR_40 hp rfl ?_
  refine w_iconst (v := nI 1) d_TR_takeOpening_8 (by decide) ?_
  refine w_iadd d_TR_takeOpening_9 ?_
  refine w_topi (y := nI (pos + 1)) (nI_add _ _) ?_
  refine w_callV (as := [.int (nI (pos + 1))]) (st := []) d_TR_takeOpening_10 yM_CR_codeAt l_TR_43 vM_CR_codeAt tp rfl rfl rfl rfl (m_CR_codeN htx0 (by omega)) (by decide) (by decide) (by decide) (by decide) (Nat.le_of_ble_eq_true rfl) ?_
  rintro _ h9_1 ⟨rfl, e9_1⟩
  rw [e9_1]
  refine w_eq (st' := [.int (cA t (pos + 1))]) rfl ?_
  refine w_istore_n d_TR_takeOpening_13 (by decide) ?_
  refine w_pl (pl' := [some (.ref p), some (.int (cA t (pos + 1))), none, none]) rfl ?_
  refine w_iload_n d_TR_takeOpening_14 rfl ?_
  refine w_bipush (v := nI 94) d_TR_takeOpening_15 (by decide) ?_
  refine w_icmp_ne (tgt := 28) d_TR_takeOpening_17 rfl (fun c17 => ?_) (fun c17 => ?_)
  · have c17 : ¬ t[pos + 1]? = some 94 := fun z => c17 ((cA_eq ht31 (by decide)).mpr z)
    refine w_iload_n d_TR_takeOpening_28 rfl ?_
    refine w_bipush (v := nI 58) d_TR_takeOpening_29 (by decide) ?_
    refine w_icmp_eq (tgt := 42) d_TR_takeOpening_31 rfl (fun c31 => ?_) (fun c31 => ?_)
    · have c31 : t[pos + 1]? = some 58 := (cA_eq ht31 (by decide)).mp c31
      refine w_aload_n d_TR_takeOpening_42 rfl rfl ?_
      refine w_get d_TR_takeOpening_43 f_TR_12 hp rfl ?_
      refine w_aload_n d_TR_takeOpening_46 rfl rfl ?_
      refine w_get d_TR_takeOpening_47 f_TR_40 hp rfl ?_
      refine w_iconst (v := nI 2) d_TR_takeOpening_50 (by decide) ?_
      refine w_iadd d_TR_takeOpening_51 ?_
      refine w_topi (y := nI (pos + 2)) (nI_add _ _) ?_
      refine w_callV (as := [.int (nI (pos + 2))]) (st := []) d_TR_takeOpening_52 yM_CR_codeAt l_TR_43 vM_CR_codeAt tp rfl rfl rfl rfl (m_CR_codeN htx0 (by omega)) (by decide) (by decide) (by decide) (by decide) (Nat.le_of_ble_eq_true rfl) ?_
      rintro _ h9_2 ⟨rfl, e9_2⟩
      rw [e9_2]
      refine w_eq (st' := [.int (cA t (pos + 2))]) rfl ?_
      refine w_bipush (v := nI 94) d_TR_takeOpening_55 (by decide) ?_
      suffices J65 : WP X M_TR_takeOpening (wR 7 0 0) 0 EN 0 0 65 [some (.ref p), some (.int (cA t (pos + 1))), none, none] [.int (bI (decide (t[pos + 2]? = some 94)))] h by
        refine w_icmp_ne (tgt := 64) d_TR_takeOpening_57 rfl (fun c57 => ?_) (fun c57 => ?_)
        · have c57 : ¬ t[pos + 2]? = some 94 := fun z => c57 ((cA_eq ht31 (by decide)).mpr z)
          refine w_iconst (v := nI 0) d_TR_takeOpening_64 (by decide) ?_
          rw [decide_eq_false c57] at J65; exact J65
        · have c57 : t[pos + 2]? = some 94 := (cA_eq ht31 (by decide)).mp c57
          refine w_iconst (v := nI 1) d_TR_takeOpening_60 (by decide) ?_
          refine w_goto (tgt := 65) d_TR_takeOpening_61 rfl ?_
          rw [decide_eq_true c57] at J65; exact J65
      refine w_istore_n d_TR_takeOpening_65 (by decide) ?_
      refine w_pl (pl' := [some (.ref p), some (.int (cA t (pos + 1))), some (.int (bI (decide (t[pos + 2]? = some 94)))), none]) rfl ?_
      unfold lxOpen at hEN
      rw [if_neg c17, if_pos c31] at hEN
      have hf9 : (pos + (if decide (t[pos + 2]? = some 94) = true then 3 else 2)) ≤ pos + 3 := by split <;> omega
      have hf8 : pos + 2 ≤ (pos + (if decide (t[pos + 2]? = some 94) = true then 3 else 2)) := by split <;> omega
      have hq1 := nmR_le t (t.length - (pos + (if decide (t[pos + 2]? = some 94) = true then 3 else 2))) (pos + (if decide (t[pos + 2]? = some 94) = true then 3 else 2)) []
      have hq2 := nmR_ge t (Nat.le_of_lt hpos) (t.length - (pos + (if decide (t[pos + 2]? = some 94) = true then 3 else 2))) (pos + (if decide (t[pos + 2]? = some 94) = true then 3 else 2)) [] (by omega)
      have hq3 := nmR_b t ht (t.length - (pos + (if decide (t[pos + 2]? = some 94) = true then 3 else 2))) (pos + (if decide (t[pos + 2]? = some 94) = true then 3 else 2)) [] (fun x hx => by cases hx)
      have hcn := m_TR_collectName (X := X) (f := (pos + (if decide (t[pos + 2]? = some 94) = true then 3 else 2))) hhm (by omega) ht31
      generalize nmR t (t.length - (pos + (if decide (t[pos + 2]? = some 94) = true then 3 else 2))) (pos + (if decide (t[pos + 2]? = some 94) = true then 3 else 2)) [] = q at hq1 hq2 hq3 hcn hEN
      generalize hOO : decide (t[pos + 2]? = some 94) = oo at hcn hf9 hf8 hEN ⊢
      refine w_aload_n d_TR_takeOpening_66 rfl rfl ?_
      refine w_aload_n d_TR_takeOpening_67 rfl rfl ?_
      refine w_get d_TR_takeOpening_68 f_TR_40 hp rfl ?_
      refine w_iload_n d_TR_takeOpening_71 rfl ?_
      suffices J80 : WP X M_TR_takeOpening (wR 7 0 0) 0 EN 0 0 80 [some (.ref p), some (.int (cA t (pos + 1))), some (.int (bI oo)), none] [.int (nI (if oo = true then 3 else 2)), .int (nI pos), .ref p] h by
        refine w_if_eq (tgt := 79) d_TR_takeOpening_72 rfl (fun c72 => ?_) (fun c72 => ?_)
        · have c72 := bI_f c72
          refine w_iconst (v := nI 2) d_TR_takeOpening_79 (by decide) ?_
          rw [if_neg (by rw [c72]; decide)] at J80; exact J80
        · have c72 := bI_t c72
          refine w_iconst (v := nI 3) d_TR_takeOpening_75 (by decide) ?_
          refine w_goto (tgt := 80) d_TR_takeOpening_76 rfl ?_
          rw [if_pos c72] at J80; exact J80
      refine w_iadd d_TR_takeOpening_80 ?_
      refine w_topi (y := nI (pos + (if oo = true then 3 else 2))) (nI_add _ _) ?_
      refine w_callV (as := [.int (nI (pos + (if oo = true then 3 else 2)))]) (st := []) d_TR_takeOpening_81 yM_TR_collectName l_TR_64 vM_TR_collectName hp rfl rfl rfl rfl (hcn) (by decide) (by decide) (by decide) (by decide) (Nat.le_of_ble_eq_true rfl) ?_
      rintro _ h1 ⟨rfl, km, ko⟩
      refine w_eq (st' := [.int (nI q.1)]) rfl ?_
      have khm := km; obtain ⟨kfk, kfv, khp, khtx, khkk, khvv, khlt, khl60, khfk⟩ := km; have khtx0 := khtx; obtain ⟨ktf, ktp, kta, ktl, kthf⟩ := khtx; have khlt0 := khlt; obtain ⟨klf, klp, kla, kll, klhf⟩ := khlt
      refine w_istore_n d_TR_takeOpening_84 (by decide) ?_
      refine w_pl (pl' := [some (.ref p), some (.int (cA t (pos + 1))), some (.int (bI oo)), some (.int (nI q.1))]) rfl ?_
      refine w_aload_n d_TR_takeOpening_85 rfl rfl ?_
      refine w_get d_TR_takeOpening_86 f_TR_12 khp rfl ?_
      refine w_iload_n d_TR_takeOpening_89 rfl ?_
      refine w_callV (as := [.int (nI q.1)]) (st := []) d_TR_takeOpening_90 yM_CR_codeAt l_TR_43 vM_CR_codeAt ktp rfl rfl rfl rfl (m_CR_codeN khtx0 (by omega)) (by decide) (by decide) (by decide) (by decide) (Nat.le_of_ble_eq_true rfl) ?_
      rintro _ h9_3 ⟨rfl, e9_3⟩
      rw [e9_3]
      refine w_eq (st' := [.int (cA t (q.1))]) rfl ?_
      refine w_bipush (v := nI 58) d_TR_takeOpening_93 (by decide) ?_
      suffices J113 : ¬ (t[q.1]? = some 58 ∧ t[q.1 + 1]? = some 93) → WP X M_TR_takeOpening (wR 7 0 0) 0 EN 0 0 113 [some (.ref p), some (.int (cA t (pos + 1))), some (.int (bI oo)), some (.int (nI q.1))] [] h1 by
        refine w_icmp_ne (tgt := 113) d_TR_takeOpening_95 rfl (fun c95 => ?_) (fun c95 => ?_)
        · have c95 : ¬ t[q.1]? = some 58 := fun z => c95 ((cA_eq ht31 (by decide)).mpr z)
          exact J113 (fun z => c95 z.1)
        · have c95 : t[q.1]? = some 58 := (cA_eq ht31 (by decide)).mp c95
          refine w_aload_n d_TR_takeOpening_98 rfl rfl ?_
          refine w_get d_TR_takeOpening_99 f_TR_12 khp rfl ?_
          refine w_iload_n d_TR_takeOpening_102 rfl ?_
          refine w_iconst (v := nI 1) d_TR_takeOpening_103 (by decide) ?_
          refine w_iadd d_TR_takeOpening_104 ?_
          refine w_topi (y := nI (q.1 + 1)) (nI_add _ _) ?_
          refine w_callV (as := [.int (nI (q.1 + 1))]) (st := []) d_TR_takeOpening_105 yM_CR_codeAt l_TR_43 vM_CR_codeAt ktp rfl rfl rfl rfl (m_CR_codeN khtx0 (by omega)) (by decide) (by decide) (by decide) (by decide) (Nat.le_of_ble_eq_true rfl) ?_
          rintro _ h9_4 ⟨rfl, e9_4⟩
          rw [e9_4]
          refine w_eq (st' := [.int (cA t (q.1 + 1))]) rfl ?_
          refine w_bipush (v := nI 93) d_TR_takeOpening_108 (by decide) ?_
          refine w_icmp_eq (tgt := 115) d_TR_takeOpening_110 rfl (fun c110 => ?_) (fun c110 => ?_)
          · have c110 : t[q.1 + 1]? = some 93 := (cA_eq ht31 (by decide)).mp c110
            refine w_aload_n d_TR_takeOpening_115 rfl rfl ?_
            refine w_iload_n d_TR_takeOpening_116 rfl ?_
            refine w_iload_n d_TR_takeOpening_117 rfl ?_
            refine w_iconst (v := nI 2) d_TR_takeOpening_118 (by decide) ?_
            refine w_iadd d_TR_takeOpening_119 ?_
            refine w_topi (y := nI (q.1 + 2)) (nI_add _ _) ?_
            refine w_aload_n d_TR_takeOpening_120 rfl rfl ?_
            refine w_get d_TR_takeOpening_121 f_TR_40 khp rfl ?_
            refine w_isub d_TR_takeOpening_124 ?_
            refine w_topi (y := nI (q.1 + 2 - pos)) (pk_sub (by omega)) ?_
            refine w_callV (as := [.int (bI oo), .int (nI (q.1 + 2 - pos))]) (st := []) d_TR_takeOpening_125 yM_TR_addProperty l_TR_67 vM_TR_addProperty khp rfl rfl rfl rfl (m_TR_addProperty khm hlen ht hq3) (by decide) (by decide) (by decide) (by decide) (Nat.le_of_ble_eq_true rfl) ?_
            rintro rv h2 hlx
            have hlb := hlx.b01
            rw [hlb]
            refine w_eq (st' := [.int (bI (lxProp oo q.2 (q.1 + 2 - pos)).isSome)]) rfl ?_
            rw [← hEN]
            refine w_zret d_TR_takeOpening_128 rfl (bI_01 _) ?_
            unfold lxOpen2
            rw [if_pos ⟨c95, c110⟩, ← hlb]
            exact hlx.tr ko
          · have c110 : ¬ t[q.1 + 1]? = some 93 := fun z => c110 ((cA_eq ht31 (by decide)).mpr z)
            exact J113 (fun z => c110 z.2)
      intro hno
      refine w_iconst (v := nI 0) d_TR_takeOpening_113 (by decide) ?_
      rw [← hEN]
      refine w_zret d_TR_takeOpening_114 rfl (by first | exact Or.inl rfl | exact Or.inr rfl) ?_
      unfold lxOpen2
      rw [if_neg hno]
      exact ⟨ko, rfl, q.2, khm⟩
    · have c31 : ¬ t[pos + 1]? = some 58 := fun z => c31 ((cA_eq ht31 (by decide)).mpr z)
      refine w_aload_n d_TR_takeOpening_34 rfl rfl ?_
      refine w_iconst (v := nI 4) d_TR_takeOpening_35 (by decide) ?_
      refine w_iload_n d_TR_takeOpening_36 rfl ?_
      refine w_iconst (v := nI 1) d_TR_takeOpening_37 (by decide) ?_
      refine w_callV (as := [.int (nI 4), .int (cA t (pos + 1)), .int (nI 1)]) (st := []) d_TR_takeOpening_38 yM_TR_add l_TR_54 vM_TR_add hp rfl rfl rfl rfl (m_TR_add hhm hlen) (by decide) (by decide) (by decide) (by decide) (Nat.le_of_ble_eq_true rfl) ?_
      rintro _ g1 ⟨rfl, a1, b1⟩
      refine w_eq (st' := [.int (nI 1)]) rfl ?_
      rw [← hEN]
      refine w_zret d_TR_takeOpening_41 rfl (by first | exact Or.inl rfl | exact Or.inr rfl) ?_
      unfold lxOpen
      rw [if_neg c17, if_neg c31]
      exact ⟨b1, rfl, l, a1⟩
  · have c17 : t[pos + 1]? = some 94 := (cA_eq ht31 (by decide)).mp c17
    refine w_aload_n d_TR_takeOpening_20 rfl rfl ?_
    refine w_iconst (v := nI 5) d_TR_takeOpening_21 (by decide) ?_
    refine w_iload_n d_TR_takeOpening_22 rfl ?_
    refine w_iconst (v := nI 2) d_TR_takeOpening_23 (by decide) ?_
    refine w_callV (as := [.int (nI 5), .int (cA t (pos + 1)), .int (nI 2)]) (st := []) d_TR_takeOpening_24 yM_TR_add l_TR_54 vM_TR_add hp rfl rfl rfl rfl (m_TR_add hhm hlen) (by decide) (by decide) (by decide) (by decide) (Nat.le_of_ble_eq_true rfl) ?_
    rintro _ g1 ⟨rfl, a1, b1⟩
    refine w_eq (st' := [.int (nI 1)]) rfl ?_
    rw [← hEN]
    refine w_zret d_TR_takeOpening_27 rfl (by first | exact Or.inl rfl | exact Or.inr rfl) ?_
    unfold lxOpen
    rw [if_pos c17]
    have e9 : cA t (pos + 1) = nI 94 := (cA_eq ht31 (by decide)).mpr c17
    rw [e9] at a1
    exact ⟨b1, rfl, l, a1⟩
set_option maxHeartbeats 4000000 in
set_option maxRecDepth 100000 in
theorem m_TR_takeEscape {h : wH} {p pos : Nat} {t l : List Nat} {tk : List (Nat × Int32)} (hm : hTR h p t tk l pos) (hpos : pos < t.length) (hlen : tk.length < 60) (ht : ∀ x ∈ t, x < 1114112) : PM X M_TR_takeEscape 3 0 0 [.ref p] h (lxQ (lxEsc t pos) h p t tk pos) := by
  have hhm := hm; obtain ⟨fk, fv, hp, htx, hkk, hvv, hlt, hl60, hfk⟩ := hm; have htx0 := htx; obtain ⟨tf, tp, ta, tl, thf⟩ := htx; have hlt0 := hlt; obtain ⟨lf, lp, la, ll, lhf⟩ := hlt
  have ht31 : ∀ x ∈ t, x < 2 ^ 31 := fun x hx => by have := ht x hx; omega
  refine PM.at (pl := [some (.ref p), none]) rfl rfl (by simp [wle, wen]) ?_
  generalize hEN : wEm X 0 0 _ = EN
  refine w_aload_n d_TR_takeEscape_0 rfl rfl ?_
  refine w_get d_TR_takeEscape_1 f_TR_12 hp rfl ?_
  refine w_aload_n d_TR_takeEscape_4 rfl rfl ?_
  refine w_get d_TR_takeEscape_5 f_TR_40 hp rfl ?_
  refine w_iconst (v := nI 1) d_TR_takeEscape_8 (by decide) ?_
  refine w_iadd d_TR_takeEscape_9 ?_
  refine w_topi (y := nI (pos + 1)) (nI_add _ _) ?_
  refine w_callV (as := [.int (nI (pos + 1))]) (st := []) d_TR_takeEscape_10 yM_CR_codeAt l_TR_43 vM_CR_codeAt tp rfl rfl rfl rfl (m_CR_codeN htx0 (by omega)) (by decide) (by decide) (by decide) (by decide) (Nat.le_of_ble_eq_true rfl) ?_
  rintro _ h9_1 ⟨rfl, e9_1⟩
  rw [e9_1]
  refine w_eq (st' := [.int (cA t (pos + 1))]) rfl ?_
  refine w_istore_n d_TR_takeEscape_13 (by decide) ?_
  refine w_pl (pl' := [some (.ref p), some (.int (cA t (pos + 1)))]) rfl ?_
  refine w_iload_n d_TR_takeEscape_14 rfl ?_
  cases hc9 : t[pos + 1]? with
  | none =>
    have e9 : cA t (pos + 1) = -1 := by unfold cA; rw [hc9]
    refine w_topi (y := -1) e9 ?_
    refine w_lookup (off := 49) (tgt := 64) d_TR_takeEscape_15 (by decide) (by decide) (by decide) ?_
    refine w_iconst (v := nI 0) d_TR_takeEscape_64 (by decide) ?_
    rw [← hEN]
    refine w_zret d_TR_takeEscape_65 rfl (by first | exact Or.inl rfl | exact Or.inr rfl) ?_
    unfold lxEsc
    rw [hc9]
    exact ⟨wOff.rf, rfl, l, hhm⟩
  | some c =>
    have e9 : cA t (pos + 1) = nI c := by unfold cA; rw [hc9]
    have hc31 := ht c (List.mem_of_getElem? hc9)
    rw [e9]
    by_cases q110 : c = 110
    · subst q110
      refine w_lookup (off := 51) (tgt := 66) d_TR_takeEscape_15 (by decide) (by decide) (by decide) ?_
      refine w_aload_n d_TR_takeEscape_66 rfl rfl ?_
      refine w_iconst (v := nI 1) d_TR_takeEscape_67 (by decide) ?_
      refine w_bipush (v := nI 10) d_TR_takeEscape_68 (by decide) ?_
      refine w_iconst (v := nI 2) d_TR_takeEscape_70 (by decide) ?_
      refine w_callV (as := [.int (nI 1), .int (nI 10), .int (nI 2)]) (st := []) d_TR_takeEscape_71 yM_TR_add l_TR_54 vM_TR_add hp rfl rfl rfl rfl (m_TR_add hhm hlen) (by decide) (by decide) (by decide) (by decide) (Nat.le_of_ble_eq_true rfl) ?_
      rintro _ g1 ⟨rfl, a1, b1⟩
      refine w_eq (st' := [.int (nI 1)]) rfl ?_
      rw [← hEN]
      refine w_zret d_TR_takeEscape_74 rfl (by first | exact Or.inl rfl | exact Or.inr rfl) ?_
      unfold lxEsc
      rw [hc9]
      dsimp only
      rw [if_pos rfl]
      exact ⟨b1, rfl, l, a1⟩
    by_cases q116 : c = 116
    · subst q116
      refine w_lookup (off := 60) (tgt := 75) d_TR_takeEscape_15 (by decide) (by decide) (by decide) ?_
      refine w_aload_n d_TR_takeEscape_75 rfl rfl ?_
      refine w_iconst (v := nI 1) d_TR_takeEscape_76 (by decide) ?_
      refine w_bipush (v := nI 9) d_TR_takeEscape_77 (by decide) ?_
      refine w_iconst (v := nI 2) d_TR_takeEscape_79 (by decide) ?_
      refine w_callV (as := [.int (nI 1), .int (nI 9), .int (nI 2)]) (st := []) d_TR_takeEscape_80 yM_TR_add l_TR_54 vM_TR_add hp rfl rfl rfl rfl (m_TR_add hhm hlen) (by decide) (by decide) (by decide) (by decide) (Nat.le_of_ble_eq_true rfl) ?_
      rintro _ g1 ⟨rfl, a1, b1⟩
      refine w_eq (st' := [.int (nI 1)]) rfl ?_
      rw [← hEN]
      refine w_zret d_TR_takeEscape_83 rfl (by first | exact Or.inl rfl | exact Or.inr rfl) ?_
      unfold lxEsc
      rw [hc9]
      dsimp only
      rw [if_neg (by decide), if_pos rfl]
      exact ⟨b1, rfl, l, a1⟩
    by_cases q117 : c = 117
    · subst q117
      refine w_lookup (off := 69) (tgt := 84) d_TR_takeEscape_15 (by decide) (by decide) (by decide) ?_
      refine w_aload_n d_TR_takeEscape_84 rfl rfl ?_
      refine w_callV (as := []) (st := []) d_TR_takeEscape_85 yM_TR_takeFourDigits l_TR_71 vM_TR_takeFourDigits hp rfl rfl rfl rfl (m_TR_takeFour hhm hpos hlen ht) (by decide) (by decide) (by decide) (by decide) (Nat.le_of_ble_eq_true rfl) ?_
      rintro rv h2 hlx
      have hlb := hlx.b01
      rw [hlb]
      refine w_eq (st' := [.int (bI (lxFour t pos).isSome)]) rfl ?_
      rw [← hEN]
      refine w_zret d_TR_takeEscape_88 rfl (bI_01 _) ?_
      unfold lxEsc
      rw [hc9]
      dsimp only
      rw [if_neg (by decide), if_neg (by decide), if_pos rfl, ← hlb]
      exact hlx
    by_cases q120 : c = 120
    · subst q120
      refine w_lookup (off := 74) (tgt := 89) d_TR_takeEscape_15 (by decide) (by decide) (by decide) ?_
      refine w_aload_n d_TR_takeEscape_89 rfl rfl ?_
      refine w_callV (as := []) (st := []) d_TR_takeEscape_90 yM_TR_takeBracedDigits l_TR_74 vM_TR_takeBracedDigits hp rfl rfl rfl rfl (m_TR_takeBraced hhm hpos hlen ht) (by decide) (by decide) (by decide) (by decide) (Nat.le_of_ble_eq_true rfl) ?_
      rintro rv h2 hlx
      have hlb := hlx.b01
      rw [hlb]
      refine w_eq (st' := [.int (bI (lxBr t pos).isSome)]) rfl ?_
      rw [← hEN]
      refine w_zret d_TR_takeEscape_93 rfl (bI_01 _) ?_
      unfold lxEsc
      rw [hc9]
      dsimp only
      rw [if_neg (by decide), if_neg (by decide), if_neg (by decide), if_pos rfl, ← hlb]
      exact hlx
    · refine w_lookup (off := 79) (tgt := 94) d_TR_takeEscape_15 (by decide) (by show Op.lookupswitch.offset [(-1, 49), (110, 51), (116, 60), (117, 69), (120, 74)] 79 (nI c).toInt = 79; rw [lv_osw (k := -1) (nI_nm1 (by omega)) (by decide), lv_osw (k := nI 110) (fun z => q110 ((nI_eq (by omega) (by decide)).mp z)) (by decide), lv_osw (k := nI 116) (fun z => q116 ((nI_eq (by omega) (by decide)).mp z)) (by decide), lv_osw (k := nI 117) (fun z => q117 ((nI_eq (by omega) (by decide)).mp z)) (by decide), lv_osw (k := nI 120) (fun z => q120 ((nI_eq (by omega) (by decide)).mp z)) (by decide)]; rfl) (by decide) ?_
      refine w_iload_n d_TR_takeEscape_94 rfl ?_
      refine w_callS (as := [.int (nI c)]) (st := []) d_TR_takeEscape_95 yM_TR_isLetter l_TR_77 sM_TR_isLetter rfl rfl (m_TR_isLetter) (by decide) (by decide) (by decide) (by decide) (Nat.le_of_ble_eq_true rfl) ?_
      rintro _ h9_2 ⟨rfl, e9_2⟩
      rw [e9_2]
      refine w_eq (st' := [.int (bI (ltI (nI c)))]) rfl ?_
      refine w_if_ne (tgt := 115) d_TR_takeEscape_98 rfl (fun c98 => ?_) (fun c98 => ?_)
      · have c98 := bI_t c98
        refine w_iconst (v := nI 0) d_TR_takeEscape_115 (by decide) ?_
        rw [← hEN]
        refine w_zret d_TR_takeEscape_116 rfl (by first | exact Or.inl rfl | exact Or.inr rfl) ?_
        unfold lxEsc
        rw [hc9]
        dsimp only
        rw [if_neg q110, if_neg q116, if_neg q117, if_neg q120]
        first
          | (rw [if_pos c98]; exact ⟨wOff.rf, rfl, l, hhm⟩)
          | (rw [if_neg (by rw [c98]; decide)]; exact ⟨b1, rfl, l, a1⟩)
      · have c98 := bI_f c98
        refine w_aload_n d_TR_takeEscape_101 rfl rfl ?_
        refine w_iconst (v := nI 1) d_TR_takeEscape_102 (by decide) ?_
        refine w_iload_n d_TR_takeEscape_103 rfl ?_
        refine w_iconst (v := nI 2) d_TR_takeEscape_104 (by decide) ?_
        refine w_callV (as := [.int (nI 1), .int (nI c), .int (nI 2)]) (st := []) d_TR_takeEscape_105 yM_TR_add l_TR_54 vM_TR_add hp rfl rfl rfl rfl (m_TR_add hhm hlen) (by decide) (by decide) (by decide) (by decide) (Nat.le_of_ble_eq_true rfl) ?_
        rintro _ g1 ⟨rfl, a1, b1⟩
        refine w_eq (st' := [.int (nI 1)]) rfl ?_
        refine w_if_eq (tgt := 115) d_TR_takeEscape_108 rfl (fun z => absurd z (by decide)) (fun _ => ?_)
        refine w_iconst (v := nI 1) d_TR_takeEscape_111 (by decide) ?_
        refine w_goto (tgt := 116) d_TR_takeEscape_112 rfl ?_
        rw [← hEN]
        refine w_zret d_TR_takeEscape_116 rfl (by first | exact Or.inl rfl | exact Or.inr rfl) ?_
        unfold lxEsc
        rw [hc9]
        dsimp only
        rw [if_neg q110, if_neg q116, if_neg q117, if_neg q120]
        first
          | (rw [if_pos c98]; exact ⟨wOff.rf, rfl, l, hhm⟩)
          | (rw [if_neg (by rw [c98]; decide)]; exact ⟨b1, rfl, l, a1⟩)
set_option maxHeartbeats 4000000 in
set_option maxRecDepth 100000 in
theorem m_TR_takeToken {h : wH} {p pos : Nat} {t l : List Nat} {tk : List (Nat × Int32)} (hm : hTR h p t tk l pos) (hpos : pos < t.length) (hlen : tk.length < 60) (ht : ∀ x ∈ t, x < 1114112) {c : Nat} (hc : t[pos]? = some c) : PM X M_TR_takeToken 8 0 0 [.ref p] h (lxQ (lxAt t pos c) h p t tk pos) := by
  have hhm := hm; obtain ⟨fk, fv, hp, htx, hkk, hvv, hlt, hl60, hfk⟩ := hm; have htx0 := htx; obtain ⟨tf, tp, ta, tl, thf⟩ := htx; have hlt0 := hlt; obtain ⟨lf, lp, la, ll, lhf⟩ := hlt
  have ht31 : ∀ x ∈ t, x < 2 ^ 31 := fun x hx => by have := ht x hx; omega
  have hc31 := ht c (List.mem_of_getElem? hc)
  have hcA : cA t pos = nI c := by unfold cA; rw [hc]
  refine PM.at (pl := [some (.ref p), none]) rfl rfl (by simp [wle, wen]) ?_
  generalize hEN : wEm X 0 0 _ = EN
  refine w_aload_n d_TR_takeToken_0 rfl rfl ?_
  refine w_get d_TR_takeToken_1 f_TR_12 hp rfl ?_
  refine w_aload_n d_TR_takeToken_4 rfl rfl ?_
  refine w_get d_TR_takeToken_5 f_TR_40 hp rfl ?_
  refine w_callV (as := [.int (nI pos)]) (st := []) d_TR_takeToken_8 yM_CR_codeAt l_TR_43 vM_CR_codeAt tp rfl rfl rfl rfl (m_CR_codeN htx0 (by omega)) (by decide) (by decide) (by decide) (by decide) (Nat.le_of_ble_eq_true rfl) ?_
  rintro _ h9_1 ⟨rfl, e9_1⟩
  rw [e9_1]
  refine w_eq (st' := [.int (cA t (pos))]) rfl ?_
  refine w_topi (y := nI c) hcA ?_
  refine w_istore_n d_TR_takeToken_11 (by decide) ?_
  refine w_pl (pl' := [some (.ref p), some (.int (nI c))]) rfl ?_
  refine w_iload_n d_TR_takeToken_12 rfl ?_
  by_cases q32 : c = 32
  · subst q32
    refine w_lookup (off := 83) (tgt := 96) d_TR_takeToken_13 (by decide) (by decide) (by decide) ?_
    refine w_aload_n d_TR_takeToken_96 rfl rfl ?_
    refine w_dup d_TR_takeToken_97 rfl ?_
    refine w_get d_TR_takeToken_98 f_TR_40 hp rfl ?_
    refine w_iconst (v := nI 1) d_TR_takeToken_101 (by decide) ?_
    refine w_iadd d_TR_takeToken_102 ?_
    refine w_topi (y := nI (pos + 1)) (nI_add _ _) ?_
    refine w_put d_TR_takeToken_103 f_TR_40 rfl hp rfl rfl rfl ?_
    refine w_nm (fun h2 e2 => ?_)
    have hp_2 := wS_eq e2 hp
    have tp_2 := wS_ne e2 (by omega) tp
    have hkk_2 := wS_ne e2 (by omega) hkk
    have hvv_2 := wS_ne e2 (by omega) hvv
    have lp_2 := wS_ne e2 (by omega) lp
    refine w_iconst (v := nI 1) d_TR_takeToken_106 (by decide) ?_
    rw [← hEN]
    refine w_zret d_TR_takeToken_107 rfl (by first | exact Or.inl rfl | exact Or.inr rfl) ?_
    unfold lxAt
    rw [if_pos rfl]
    refine ⟨fun k hk => by rw [wS_off e2 (by omega)], rfl, l, ?_⟩
    exact ⟨fk, fv, hp_2, ⟨tf, tp_2, by rw [wS_off e2 (by omega)]; exact ta, tl, thf⟩, hkk_2, hvv_2, ⟨lf, lp_2, by rw [wS_off e2 (by omega)]; exact la, ll, lhf⟩, hl60, hfk⟩
  by_cases q38 : c = 38
  · subst q38
    refine w_lookup (off := 136) (tgt := 149) d_TR_takeToken_13 (by decide) (by decide) (by decide) ?_
    refine w_aload_n d_TR_takeToken_149 rfl rfl ?_
    refine w_bipush (v := nI 10) d_TR_takeToken_150 (by decide) ?_
    refine w_iload_n d_TR_takeToken_152 rfl ?_
    refine w_iconst (v := nI 1) d_TR_takeToken_153 (by decide) ?_
    refine w_callV (as := [.int (nI 10), .int (nI 38), .int (nI 1)]) (st := []) d_TR_takeToken_154 yM_TR_add l_TR_54 vM_TR_add hp rfl rfl rfl rfl (m_TR_add hhm hlen) (by decide) (by decide) (by decide) (by decide) (Nat.le_of_ble_eq_true rfl) ?_
    rintro _ g1 ⟨rfl, a1, b1⟩
    refine w_eq (st' := [.int (nI 1)]) rfl ?_
    rw [← hEN]
    refine w_zret d_TR_takeToken_157 rfl (by first | exact Or.inl rfl | exact Or.inr rfl) ?_
    unfold lxAt
    rw [if_neg (by decide), if_pos rfl]
    exact ⟨b1, rfl, l, a1⟩
  by_cases q45 : c = 45
  · subst q45
    refine w_lookup (off := 127) (tgt := 140) d_TR_takeToken_13 (by decide) (by decide) (by decide) ?_
    refine w_aload_n d_TR_takeToken_140 rfl rfl ?_
    refine w_bipush (v := nI 9) d_TR_takeToken_141 (by decide) ?_
    refine w_iload_n d_TR_takeToken_143 rfl ?_
    refine w_iconst (v := nI 1) d_TR_takeToken_144 (by decide) ?_
    refine w_callV (as := [.int (nI 9), .int (nI 45), .int (nI 1)]) (st := []) d_TR_takeToken_145 yM_TR_add l_TR_54 vM_TR_add hp rfl rfl rfl rfl (m_TR_add hhm hlen) (by decide) (by decide) (by decide) (by decide) (Nat.le_of_ble_eq_true rfl) ?_
    rintro _ g1 ⟨rfl, a1, b1⟩
    refine w_eq (st' := [.int (nI 1)]) rfl ?_
    rw [← hEN]
    refine w_zret d_TR_takeToken_148 rfl (by first | exact Or.inl rfl | exact Or.inr rfl) ?_
    unfold lxAt
    rw [if_neg (by decide), if_neg (by decide), if_pos rfl]
    exact ⟨b1, rfl, l, a1⟩
  by_cases q91 : c = 91
  · subst q91
    refine w_lookup (off := 95) (tgt := 108) d_TR_takeToken_13 (by decide) (by decide) (by decide) ?_
    refine w_aload_n d_TR_takeToken_108 rfl rfl ?_
    refine w_callV (as := []) (st := []) d_TR_takeToken_109 yM_TR_takeOpening l_TR_51 vM_TR_takeOpening hp rfl rfl rfl rfl (m_TR_takeOpening hhm hpos hlen ht) (by decide) (by decide) (by decide) (by decide) (Nat.le_of_ble_eq_true rfl) ?_
    rintro rv h2 hlx
    have hlb := hlx.b01
    rw [hlb]
    refine w_eq (st' := [.int (bI (lxOpen t pos).isSome)]) rfl ?_
    rw [← hEN]
    refine w_zret d_TR_takeToken_112 rfl (bI_01 _) ?_
    unfold lxAt
    rw [if_neg (by decide), if_neg (by decide), if_neg (by decide), if_pos rfl]
    rw [← hlb]
    exact hlx
  by_cases q92 : c = 92
  · subst q92
    refine w_lookup (off := 147) (tgt := 160) d_TR_takeToken_13 (by decide) (by decide) (by decide) ?_
    have nmP : (cA t (pos + 1) ||| nI 32 = nI 112) ↔ (t[pos + 1]? = some 112 ∨ t[pos + 1]? = some 80) := by
      cases h9 : t[pos + 1]? with
      | none => unfold cA; rw [h9]; exact ⟨fun z => absurd z (by decide), fun z => z.elim (fun z => by cases z) (fun z => by cases z)⟩
      | some y => unfold cA; rw [h9]; have := ht y (List.mem_of_getElem? h9); simp only [Option.some.injEq]; exact ior32 (by omega)
    refine w_aload_n d_TR_takeToken_160 rfl rfl ?_
    refine w_get d_TR_takeToken_161 f_TR_12 hp rfl ?_
    refine w_aload_n d_TR_takeToken_164 rfl rfl ?_
    refine w_get d_TR_takeToken_165 f_TR_40 hp rfl ?_
    refine w_iconst (v := nI 1) d_TR_takeToken_168 (by decide) ?_
    refine w_iadd d_TR_takeToken_169 ?_
    refine w_topi (y := nI (pos + 1)) (nI_add _ _) ?_
    refine w_callV (as := [.int (nI (pos + 1))]) (st := []) d_TR_takeToken_170 yM_CR_codeAt l_TR_43 vM_CR_codeAt tp rfl rfl rfl rfl (m_CR_codeN htx0 (by omega)) (by decide) (by decide) (by decide) (by decide) (Nat.le_of_ble_eq_true rfl) ?_
    rintro _ h9_3 ⟨rfl, e9_3⟩
    rw [e9_3]
    refine w_eq (st' := [.int (cA t (pos + 1))]) rfl ?_
    refine w_bipush (v := nI 32) d_TR_takeToken_173 (by decide) ?_
    refine w_ior d_TR_takeToken_175 ?_
    refine w_bipush (v := nI 112) d_TR_takeToken_176 (by decide) ?_
    refine w_icmp_ne (tgt := 188) d_TR_takeToken_178 rfl (fun c178 => ?_) (fun c178 => ?_)
    · have c178 : ¬ (t[pos + 1]? = some 112 ∨ t[pos + 1]? = some 80) := fun z => c178 (nmP.mpr z)
      refine w_aload_n d_TR_takeToken_188 rfl rfl ?_
      refine w_callV (as := []) (st := []) d_TR_takeToken_189 yM_TR_takeEscape l_TR_61 vM_TR_takeEscape hp rfl rfl rfl rfl (m_TR_takeEscape hhm hpos hlen ht) (by decide) (by decide) (by decide) (by decide) (Nat.le_of_ble_eq_true rfl) ?_
      rintro rv h2 hlx
      have hlb := hlx.b01
      rw [hlb]
      refine w_eq (st' := [.int (bI (lxEsc t pos).isSome)]) rfl ?_
      rw [← hEN]
      refine w_zret d_TR_takeToken_192 rfl (bI_01 _) ?_
      unfold lxAt
      rw [if_neg (by decide), if_neg (by decide), if_neg (by decide), if_neg (by decide), if_pos rfl]
      first
        | (rw [if_pos c178, ← hlb]; exact hlx)
        | (rw [if_neg c178, ← hlb]; exact hlx)
    · have c178 : (t[pos + 1]? = some 112 ∨ t[pos + 1]? = some 80) := nmP.mp c178
      refine w_aload_n d_TR_takeToken_181 rfl rfl ?_
      refine w_callV (as := []) (st := []) d_TR_takeToken_182 yM_TR_takeBracedName l_TR_58 vM_TR_takeBracedName hp rfl rfl rfl rfl (m_TR_takeName hhm hpos hlen ht) (by decide) (by decide) (by decide) (by decide) (Nat.le_of_ble_eq_true rfl) ?_
      rintro rv h2 hlx
      have hlb := hlx.b01
      rw [hlb]
      refine w_eq (st' := [.int (bI (lxName t pos).isSome)]) rfl ?_
      refine w_goto (tgt := 192) d_TR_takeToken_185 rfl ?_
      rw [← hEN]
      refine w_zret d_TR_takeToken_192 rfl (bI_01 _) ?_
      unfold lxAt
      rw [if_neg (by decide), if_neg (by decide), if_neg (by decide), if_neg (by decide), if_pos rfl]
      first
        | (rw [if_pos c178, ← hlb]; exact hlx)
        | (rw [if_neg c178, ← hlb]; exact hlx)
  by_cases q93 : c = 93
  · subst q93
    refine w_lookup (off := 100) (tgt := 113) d_TR_takeToken_13 (by decide) (by decide) (by decide) ?_
    refine w_aload_n d_TR_takeToken_113 rfl rfl ?_
    refine w_bipush (v := nI 6) d_TR_takeToken_114 (by decide) ?_
    refine w_iload_n d_TR_takeToken_116 rfl ?_
    refine w_iconst (v := nI 1) d_TR_takeToken_117 (by decide) ?_
    refine w_callV (as := [.int (nI 6), .int (nI 93), .int (nI 1)]) (st := []) d_TR_takeToken_118 yM_TR_add l_TR_54 vM_TR_add hp rfl rfl rfl rfl (m_TR_add hhm hlen) (by decide) (by decide) (by decide) (by decide) (Nat.le_of_ble_eq_true rfl) ?_
    rintro _ g1 ⟨rfl, a1, b1⟩
    refine w_eq (st' := [.int (nI 1)]) rfl ?_
    rw [← hEN]
    refine w_zret d_TR_takeToken_121 rfl (by first | exact Or.inl rfl | exact Or.inr rfl) ?_
    unfold lxAt
    rw [if_neg (by decide), if_neg (by decide), if_neg (by decide), if_neg (by decide), if_neg (by decide), if_pos rfl]
    exact ⟨b1, rfl, l, a1⟩
  by_cases q94 : c = 94
  · subst q94
    refine w_lookup (off := 145) (tgt := 158) d_TR_takeToken_13 (by decide) (by decide) (by decide) ?_
    refine w_iconst (v := nI 0) d_TR_takeToken_158 (by decide) ?_
    rw [← hEN]
    refine w_zret d_TR_takeToken_159 rfl (by first | exact Or.inl rfl | exact Or.inr rfl) ?_
    unfold lxAt
    rw [if_neg (by decide), if_neg (by decide), if_neg (by decide), if_neg (by decide), if_neg (by decide), if_neg (by decide), if_pos rfl]
    exact ⟨wOff.rf, rfl, l, hhm⟩
  by_cases q123 : c = 123
  · subst q123
    refine w_lookup (off := 109) (tgt := 122) d_TR_takeToken_13 (by decide) (by decide) (by decide) ?_
    refine w_aload_n d_TR_takeToken_122 rfl rfl ?_
    refine w_bipush (v := nI 7) d_TR_takeToken_123 (by decide) ?_
    refine w_iload_n d_TR_takeToken_125 rfl ?_
    refine w_iconst (v := nI 1) d_TR_takeToken_126 (by decide) ?_
    refine w_callV (as := [.int (nI 7), .int (nI 123), .int (nI 1)]) (st := []) d_TR_takeToken_127 yM_TR_add l_TR_54 vM_TR_add hp rfl rfl rfl rfl (m_TR_add hhm hlen) (by decide) (by decide) (by decide) (by decide) (Nat.le_of_ble_eq_true rfl) ?_
    rintro _ g1 ⟨rfl, a1, b1⟩
    refine w_eq (st' := [.int (nI 1)]) rfl ?_
    rw [← hEN]
    refine w_zret d_TR_takeToken_130 rfl (by first | exact Or.inl rfl | exact Or.inr rfl) ?_
    unfold lxAt
    rw [if_neg (by decide), if_neg (by decide), if_neg (by decide), if_neg (by decide), if_neg (by decide), if_neg (by decide), if_neg (by decide), if_pos rfl]
    exact ⟨b1, rfl, l, a1⟩
  by_cases q125 : c = 125
  · subst q125
    refine w_lookup (off := 118) (tgt := 131) d_TR_takeToken_13 (by decide) (by decide) (by decide) ?_
    refine w_aload_n d_TR_takeToken_131 rfl rfl ?_
    refine w_bipush (v := nI 8) d_TR_takeToken_132 (by decide) ?_
    refine w_iload_n d_TR_takeToken_134 rfl ?_
    refine w_iconst (v := nI 1) d_TR_takeToken_135 (by decide) ?_
    refine w_callV (as := [.int (nI 8), .int (nI 125), .int (nI 1)]) (st := []) d_TR_takeToken_136 yM_TR_add l_TR_54 vM_TR_add hp rfl rfl rfl rfl (m_TR_add hhm hlen) (by decide) (by decide) (by decide) (by decide) (Nat.le_of_ble_eq_true rfl) ?_
    rintro _ g1 ⟨rfl, a1, b1⟩
    refine w_eq (st' := [.int (nI 1)]) rfl ?_
    rw [← hEN]
    refine w_zret d_TR_takeToken_139 rfl (by first | exact Or.inl rfl | exact Or.inr rfl) ?_
    unfold lxAt
    rw [if_neg (by decide), if_neg (by decide), if_neg (by decide), if_neg (by decide), if_neg (by decide), if_neg (by decide), if_neg (by decide), if_neg (by decide), if_pos rfl]
    exact ⟨b1, rfl, l, a1⟩
  · refine w_lookup (off := 180) (tgt := 193) d_TR_takeToken_13 (by decide) (by show Op.lookupswitch.offset [(32, 83), (38, 136), (45, 127), (91, 95), (92, 147), (93, 100), (94, 145), (123, 109), (125, 118)] 180 (nI c).toInt = 180; rw [lv_osw (k := nI 32) (fun z => q32 ((nI_eq (by omega) (by decide)).mp z)) (by decide), lv_osw (k := nI 38) (fun z => q38 ((nI_eq (by omega) (by decide)).mp z)) (by decide), lv_osw (k := nI 45) (fun z => q45 ((nI_eq (by omega) (by decide)).mp z)) (by decide), lv_osw (k := nI 91) (fun z => q91 ((nI_eq (by omega) (by decide)).mp z)) (by decide), lv_osw (k := nI 92) (fun z => q92 ((nI_eq (by omega) (by decide)).mp z)) (by decide), lv_osw (k := nI 93) (fun z => q93 ((nI_eq (by omega) (by decide)).mp z)) (by decide), lv_osw (k := nI 94) (fun z => q94 ((nI_eq (by omega) (by decide)).mp z)) (by decide), lv_osw (k := nI 123) (fun z => q123 ((nI_eq (by omega) (by decide)).mp z)) (by decide), lv_osw (k := nI 125) (fun z => q125 ((nI_eq (by omega) (by decide)).mp z)) (by decide)]; rfl) (by decide) ?_
    refine w_aload_n d_TR_takeToken_193 rfl rfl ?_
    refine w_iconst (v := nI 1) d_TR_takeToken_194 (by decide) ?_
    refine w_iload_n d_TR_takeToken_195 rfl ?_
    refine w_iconst (v := nI 1) d_TR_takeToken_196 (by decide) ?_
    refine w_callV (as := [.int (nI 1), .int (nI c), .int (nI 1)]) (st := []) d_TR_takeToken_197 yM_TR_add l_TR_54 vM_TR_add hp rfl rfl rfl rfl (m_TR_add hhm hlen) (by decide) (by decide) (by decide) (by decide) (Nat.le_of_ble_eq_true rfl) ?_
    rintro _ g1 ⟨rfl, a1, b1⟩
    refine w_eq (st' := [.int (nI 1)]) rfl ?_
    rw [← hEN]
    refine w_zret d_TR_takeToken_200 rfl (by first | exact Or.inl rfl | exact Or.inr rfl) ?_
    unfold lxAt
    rw [if_neg q32, if_neg q38, if_neg q45, if_neg q91, if_neg q92, if_neg q93, if_neg q94, if_neg q123, if_neg q125]
    exact ⟨b1, rfl, l, a1⟩
end TR3
