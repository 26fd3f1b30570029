/-! PatternWriter: written by wip/gen/pw.py -/
/-- the writer at place p has been given the numbers o: as many as fit stand in its row -/
def hPW (h : wH) (p : Nat) (o : List Nat) : Prop := h[p]? = some (.inr (4, [.ref (p + 1), .int (bI (decide (o.length ≤ 60)))])) ∧ hCR h (p + 1) (o.take 60)
def dg (d : Nat) : Nat := if d < 10 then 48 + d else 97 + d - 10
def hx (c : Nat) : List Nat :=
  if c / 2 ^ 20 ≠ 0 then [dg (c / 2 ^ 20 % 16), dg (c / 2 ^ 16 % 16), dg (c / 2 ^ 12 % 16), dg (c / 2 ^ 8 % 16), dg (c / 2 ^ 4 % 16), dg (c / 2 ^ 0 % 16)] else if c / 2 ^ 16 ≠ 0 then [dg (c / 2 ^ 16 % 16), dg (c / 2 ^ 12 % 16), dg (c / 2 ^ 8 % 16), dg (c / 2 ^ 4 % 16), dg (c / 2 ^ 0 % 16)] else if c / 2 ^ 12 ≠ 0 then [dg (c / 2 ^ 12 % 16), dg (c / 2 ^ 8 % 16), dg (c / 2 ^ 4 % 16), dg (c / 2 ^ 0 % 16)] else if c / 2 ^ 8 ≠ 0 then [dg (c / 2 ^ 8 % 16), dg (c / 2 ^ 4 % 16), dg (c / 2 ^ 0 % 16)] else if c / 2 ^ 4 ≠ 0 then [dg (c / 2 ^ 4 % 16), dg (c / 2 ^ 0 % 16)] else [dg (c / 2 ^ 0 % 16)]
def sgn (c : Nat) : Bool := decide (c = 38 ∨ c = 45 ∨ c = 58 ∨ c = 91 ∨ c = 92 ∨ c = 93 ∨ c = 94 ∨ c = 123 ∨ c = 125)
/-- a code point as it is printed -/
def cT (c : Nat) : List Nat := if c < 33 ∨ 126 < c then [92] ++ [120] ++ [123] ++ hx c ++ [125] else if sgn c = true then [92] ++ [c] else [c]
def rT (a b : Nat) : List Nat := cT a ++ (if b = a then [] else (if a + 1 < b then [45] else []) ++ cT b)
def sA (k : Nat) : Nat := k / 4398046511104 - 1
def sB (k : Nat) : Nat := k / 2097152 % 2097152 - 1
def sC (k : Nat) : Nat := k % 2097152
def sT (k : Nat) : List Nat := [123] ++ cT (sA k) ++ cT (sB k) ++ (if sC k = 0 then [] else cT (sC k - 1)) ++ [125]
/-- a key is one of a string -/
def sOk (k : Nat) : Prop := ∃ a b t, a < 1114112 ∧ b < 1114112 ∧ t ≤ 1114112 ∧ k = kOf a b t
theorem sOk_abc {a b t : Nat} (ha : a < 1114112) (hb : b < 1114112) (ht : t ≤ 1114112) : sA (kOf a b t) = a ∧ sB (kOf a b t) = b ∧ sC (kOf a b t) = t := by
  unfold sA sB sC kOf
  omega
theorem hPW_put {h h1 : wH} {p c : Nat} {o : List Nat} (hp : h[p]? = some (.inr (4, [.ref (p + 1), .int (bI (decide (o.length ≤ 60)))]))) (hr : hCR h1 (p + 1) (if (o.take 60).length < 60 then o.take 60 ++ [c] else o.take 60)) : hCR h1 (p + 1) ((o ++ [c]).take 60) := by
  rw [List.length_take] at hr
  by_cases ho : o.length < 60
  · rw [if_pos (by omega), List.take_of_length_le (by omega)] at hr
    rw [List.take_of_length_le (by rw [List.length_append, List.length_singleton]; omega)]
    exact hr
  · rw [if_neg (by omega)] at hr
    rw [List.take_append_of_le_length (by omega)]
    exact hr
theorem wOff.wide {h h' : wH} {p n q m : Nat} (a : wOff h h' p n) (h1 : q ≤ p) (h2 : p + n ≤ q + m) : wOff h h' q m := fun k hk => a k (by omega)
theorem nI_nm1 {n : Nat} (h : n < 2 ^ 31) : ¬ nI n = -1 := fun q => by
  have a := nI_toInt h
  rw [q] at a
  have b : ((-1 : Int32)).toInt = -1 := by decide
  omega
section PW
variable {X : wX}
set_option maxHeartbeats 4000000 in
set_option maxRecDepth 100000 in
theorem m_PW_put {h : wH} {p c : Nat} {o : List Nat} (hw : hPW h p o) : PM X M_PW_put 1 0 0 [.ref p, .int (nI c)] h (fun r h' => r = none ∧ hPW h' p (o ++ [c]) ∧ wOff h h' p 3) := by
  obtain ⟨hp, hrow⟩ := hw; have hpr := hrow.choose_spec.1
  refine PM.at (pl := [some (.ref p), some (.int (nI c))]) rfl rfl (by simp [wle, wen]) ?_
  generalize hEN : wEm X 0 0 _ = EN
  refine w_aload_n d_PW_put_0 rfl rfl ?_
  refine w_get d_PW_put_1 f_PW_12 hp rfl ?_
  refine w_iload_n d_PW_put_4 rfl ?_
  refine w_callV (as := [.int (nI c)]) (st := []) d_PW_put_5 yM_CR_append l_PW_68 vM_CR_append hpr rfl rfl rfl rfl (m_CR_append (x := c) hrow) (by decide) (by decide) (by decide) (by decide) (Nat.le_of_ble_eq_true rfl) ?_
  rintro _ h1 ⟨rfl, hr1, ho1⟩
  refine w_eq (st' := [.int (nI (if (o.take 60).length < 60 then 1 else 0))]) rfl ?_
  have kp := (ho1 p (by omega)).trans hp
  have hr2 := hPW_put hp hr1
  refine w_if_ne (tgt := 16) d_PW_put_8 rfl (fun c8 => ?_) (fun c8 => ?_)
  · have c8 : o.length < 60 := by
      rcases Nat.lt_or_ge o.length 60 with z | z
      · exact z
      · rw [if_neg (by rw [List.length_take]; omega)] at c8; exact absurd rfl c8
    rw [← hEN]
    refine w_vret d_PW_put_16 rfl ?_
    first
      | (refine ⟨rfl, ⟨?_, hr2⟩, ho1.wide (by omega) (by omega)⟩
         rw [decide_eq_true (by omega)] at kp
         rw [decide_eq_true (by rw [List.length_append, List.length_singleton]; omega)]
         exact kp)
      | (refine ⟨rfl, ⟨?_, ?_⟩, fun k hk => ?_⟩
         · rw [decide_eq_false (by rw [List.length_append, List.length_singleton]; omega)]
           exact kp_1
         · obtain ⟨rf, r1, r2, r3⟩ := hr2
           exact ⟨rf, by rw [wS_off e1 (by omega)]; exact r1, by rw [wS_off e1 (by omega)]; exact r2, r3⟩
         · rw [wS_off e1 (by omega), ho1 k (by omega)])
  · have c8 : ¬ o.length < 60 := fun z => by rw [if_pos (by rw [List.length_take]; omega)] at c8; exact absurd c8 (by decide)
    refine w_aload_n d_PW_put_11 rfl rfl ?_
    refine w_iconst (v := nI 0) d_PW_put_12 (by decide) ?_
    refine w_put d_PW_put_13 f_PW_21 rfl kp rfl rfl rfl ?_
    refine w_nm (fun h1 e1 => ?_)
    have kp_1 := wS_eq e1 kp
    rw [← hEN]
    refine w_vret d_PW_put_16 rfl ?_
    first
      | (refine ⟨rfl, ⟨?_, hr2⟩, ho1.wide (by omega) (by omega)⟩
         rw [decide_eq_true (by omega)] at kp
         rw [decide_eq_true (by rw [List.length_append, List.length_singleton]; omega)]
         exact kp)
      | (refine ⟨rfl, ⟨?_, ?_⟩, fun k hk => ?_⟩
         · rw [decide_eq_false (by rw [List.length_append, List.length_singleton]; omega)]
           exact kp_1
         · obtain ⟨rf, r1, r2, r3⟩ := hr2
           exact ⟨rf, by rw [wS_off e1 (by omega)]; exact r1, by rw [wS_off e1 (by omega)]; exact r2, r3⟩
         · rw [wS_off e1 (by omega), ho1 k (by omega)])
set_option maxHeartbeats 4000000 in
set_option maxRecDepth 100000 in
theorem m_PW_isSign_38 {h : wH} : PM X M_PW_isSign 0 0 0 [.int (nI 38)] h (fun r h' => r = some (.int (nI 1)) ∧ h' = h) := by
  refine PM.at (pl := [some (.int (nI 38))]) rfl rfl (by simp [wle, wen]) ?_
  generalize hEN : wEm X 0 0 _ = EN
  refine w_iload_n d_PW_isSign_0 rfl ?_
  refine w_lookup (off := 83) (tgt := 84) d_PW_isSign_1 (by decide) (by decide) (by decide) ?_
  refine w_iconst (v := nI 1) d_PW_isSign_84 (by decide) ?_
  rw [← hEN]
  refine w_zret d_PW_isSign_85 rfl (by first | exact Or.inl rfl | exact Or.inr rfl) ?_
  exact ⟨rfl, rfl⟩
set_option maxHeartbeats 4000000 in
set_option maxRecDepth 100000 in
theorem m_PW_isSign_45 {h : wH} : PM X M_PW_isSign 0 0 0 [.int (nI 45)] h (fun r h' => r = some (.int (nI 1)) ∧ h' = h) := by
  refine PM.at (pl := [some (.int (nI 45))]) rfl rfl (by simp [wle, wen]) ?_
  generalize hEN : wEm X 0 0 _ = EN
  refine w_iload_n d_PW_isSign_0 rfl ?_
  refine w_lookup (off := 83) (tgt := 84) d_PW_isSign_1 (by decide) (by decide) (by decide) ?_
  refine w_iconst (v := nI 1) d_PW_isSign_84 (by decide) ?_
  rw [← hEN]
  refine w_zret d_PW_isSign_85 rfl (by first | exact Or.inl rfl | exact Or.inr rfl) ?_
  exact ⟨rfl, rfl⟩
set_option maxHeartbeats 4000000 in
set_option maxRecDepth 100000 in
theorem m_PW_isSign_58 {h : wH} : PM X M_PW_isSign 0 0 0 [.int (nI 58)] h (fun r h' => r = some (.int (nI 1)) ∧ h' = h) := by
  refine PM.at (pl := [some (.int (nI 58))]) rfl rfl (by simp [wle, wen]) ?_
  generalize hEN : wEm X 0 0 _ = EN
  refine w_iload_n d_PW_isSign_0 rfl ?_
  refine w_lookup (off := 83) (tgt := 84) d_PW_isSign_1 (by decide) (by decide) (by decide) ?_
  refine w_iconst (v := nI 1) d_PW_isSign_84 (by decide) ?_
  rw [← hEN]
  refine w_zret d_PW_isSign_85 rfl (by first | exact Or.inl rfl | exact Or.inr rfl) ?_
  exact ⟨rfl, rfl⟩
set_option maxHeartbeats 4000000 in
set_option maxRecDepth 100000 in
theorem m_PW_isSign_91 {h : wH} : PM X M_PW_isSign 0 0 0 [.int (nI 91)] h (fun r h' => r = some (.int (nI 1)) ∧ h' = h) := by
  refine PM.at (pl := [some (.int (nI 91))]) rfl rfl (by simp [wle, wen]) ?_
  generalize hEN : wEm X 0 0 _ = EN
  refine w_iload_n d_PW_isSign_0 rfl ?_
  refine w_lookup (off := 83) (tgt := 84) d_PW_isSign_1 (by decide) (by decide) (by decide) ?_
  refine w_iconst (v := nI 1) d_PW_isSign_84 (by decide) ?_
  rw [← hEN]
  refine w_zret d_PW_isSign_85 rfl (by first | exact Or.inl rfl | exact Or.inr rfl) ?_
  exact ⟨rfl, rfl⟩
set_option maxHeartbeats 4000000 in
set_option maxRecDepth 100000 in
theorem m_PW_isSign_92 {h : wH} : PM X M_PW_isSign 0 0 0 [.int (nI 92)] h (fun r h' => r = some (.int (nI 1)) ∧ h' = h) := by
  refine PM.at (pl := [some (.int (nI 92))]) rfl rfl (by simp [wle, wen]) ?_
  generalize hEN : wEm X 0 0 _ = EN
  refine w_iload_n d_PW_isSign_0 rfl ?_
  refine w_lookup (off := 83) (tgt := 84) d_PW_isSign_1 (by decide) (by decide) (by decide) ?_
  refine w_iconst (v := nI 1) d_PW_isSign_84 (by decide) ?_
  rw [← hEN]
  refine w_zret d_PW_isSign_85 rfl (by first | exact Or.inl rfl | exact Or.inr rfl) ?_
  exact ⟨rfl, rfl⟩
set_option maxHeartbeats 4000000 in
set_option maxRecDepth 100000 in
theorem m_PW_isSign_93 {h : wH} : PM X M_PW_isSign 0 0 0 [.int (nI 93)] h (fun r h' => r = some (.int (nI 1)) ∧ h' = h) := by
  refine PM.at (pl := [some (.int (nI 93))]) rfl rfl (by simp [wle, wen]) ?_
  generalize hEN : wEm X 0 0 _ = EN
  refine w_iload_n d_PW_isSign_0 rfl ?_
  refine w_lookup (off := 83) (tgt := 84) d_PW_isSign_1 (by decide) (by decide) (by decide) ?_
  refine w_iconst (v := nI 1) d_PW_isSign_84 (by decide) ?_
  rw [← hEN]
  refine w_zret d_PW_isSign_85 rfl (by first | exact Or.inl rfl | exact Or.inr rfl) ?_
  exact ⟨rfl, rfl⟩
set_option maxHeartbeats 4000000 in
set_option maxRecDepth 100000 in
theorem m_PW_isSign_94 {h : wH} : PM X M_PW_isSign 0 0 0 [.int (nI 94)] h (fun r h' => r = some (.int (nI 1)) ∧ h' = h) := by
  refine PM.at (pl := [some (.int (nI 94))]) rfl rfl (by simp [wle, wen]) ?_
  generalize hEN : wEm X 0 0 _ = EN
  refine w_iload_n d_PW_isSign_0 rfl ?_
  refine w_lookup (off := 83) (tgt := 84) d_PW_isSign_1 (by decide) (by decide) (by decide) ?_
  refine w_iconst (v := nI 1) d_PW_isSign_84 (by decide) ?_
  rw [← hEN]
  refine w_zret d_PW_isSign_85 rfl (by first | exact Or.inl rfl | exact Or.inr rfl) ?_
  exact ⟨rfl, rfl⟩
set_option maxHeartbeats 4000000 in
set_option maxRecDepth 100000 in
theorem m_PW_isSign_123 {h : wH} : PM X M_PW_isSign 0 0 0 [.int (nI 123)] h (fun r h' => r = some (.int (nI 1)) ∧ h' = h) := by
  refine PM.at (pl := [some (.int (nI 123))]) rfl rfl (by simp [wle, wen]) ?_
  generalize hEN : wEm X 0 0 _ = EN
  refine w_iload_n d_PW_isSign_0 rfl ?_
  refine w_lookup (off := 83) (tgt := 84) d_PW_isSign_1 (by decide) (by decide) (by decide) ?_
  refine w_iconst (v := nI 1) d_PW_isSign_84 (by decide) ?_
  rw [← hEN]
  refine w_zret d_PW_isSign_85 rfl (by first | exact Or.inl rfl | exact Or.inr rfl) ?_
  exact ⟨rfl, rfl⟩
set_option maxHeartbeats 4000000 in
set_option maxRecDepth 100000 in
theorem m_PW_isSign_125 {h : wH} : PM X M_PW_isSign 0 0 0 [.int (nI 125)] h (fun r h' => r = some (.int (nI 1)) ∧ h' = h) := by
  refine PM.at (pl := [some (.int (nI 125))]) rfl rfl (by simp [wle, wen]) ?_
  generalize hEN : wEm X 0 0 _ = EN
  refine w_iload_n d_PW_isSign_0 rfl ?_
  refine w_lookup (off := 83) (tgt := 84) d_PW_isSign_1 (by decide) (by decide) (by decide) ?_
  refine w_iconst (v := nI 1) d_PW_isSign_84 (by decide) ?_
  rw [← hEN]
  refine w_zret d_PW_isSign_85 rfl (by first | exact Or.inl rfl | exact Or.inr rfl) ?_
  exact ⟨rfl, rfl⟩
set_option maxHeartbeats 4000000 in
set_option maxRecDepth 100000 in
theorem m_PW_isSign_n {h : wH} {c : Nat} (hc : c < 2 ^ 31) (hn : ¬ (c = 38 ∨ c = 45 ∨ c = 58 ∨ c = 91 ∨ c = 92 ∨ c = 93 ∨ c = 94 ∨ c = 123 ∨ c = 125)) : PM X M_PW_isSign 0 0 0 [.int (nI c)] h (fun r h' => r = some (.int (nI 0)) ∧ h' = h) := by
  refine PM.at (pl := [some (.int (nI c))]) rfl rfl (by simp [wle, wen]) ?_
  generalize hEN : wEm X 0 0 _ = EN
  refine w_iload_n d_PW_isSign_0 rfl ?_
  refine w_lookup (off := 85) (tgt := 86) d_PW_isSign_1 (by decide) (by show Op.lookupswitch.offset [(38, 83), (45, 83), (58, 83), (91, 83), (92, 83), (93, 83), (94, 83), (123, 83), (125, 83)] 85 (nI c).toInt = 85; rw [lv_osw (k := nI 38) (fun z => hn (by have := (nI_eq hc (by decide)).mp z; omega)) (by decide), lv_osw (k := nI 45) (fun z => hn (by have := (nI_eq hc (by decide)).mp z; omega)) (by decide), lv_osw (k := nI 58) (fun z => hn (by have := (nI_eq hc (by decide)).mp z; omega)) (by decide), lv_osw (k := nI 91) (fun z => hn (by have := (nI_eq hc (by decide)).mp z; omega)) (by decide), lv_osw (k := nI 92) (fun z => hn (by have := (nI_eq hc (by decide)).mp z; omega)) (by decide), lv_osw (k := nI 93) (fun z => hn (by have := (nI_eq hc (by decide)).mp z; omega)) (by decide), lv_osw (k := nI 94) (fun z => hn (by have := (nI_eq hc (by decide)).mp z; omega)) (by decide), lv_osw (k := nI 123) (fun z => hn (by have := (nI_eq hc (by decide)).mp z; omega)) (by decide), lv_osw (k := nI 125) (fun z => hn (by have := (nI_eq hc (by decide)).mp z; omega)) (by decide)]; rfl) (by decide) ?_
  refine w_iconst (v := nI 0) d_PW_isSign_86 (by decide) ?_
  rw [← hEN]
  refine w_zret d_PW_isSign_87 rfl (by first | exact Or.inl rfl | exact Or.inr rfl) ?_
  exact ⟨rfl, rfl⟩
theorem m_PW_isSign {h : wH} {c : Nat} (hc : c < 2 ^ 31) : PM X M_PW_isSign 0 0 0 [.int (nI c)] h (fun r h' => r = some (.int (bI (sgn c))) ∧ h' = h) := by
  by_cases hn : c = 38 ∨ c = 45 ∨ c = 58 ∨ c = 91 ∨ c = 92 ∨ c = 93 ∨ c = 94 ∨ c = 123 ∨ c = 125
  · rw [show sgn c = true from decide_eq_true hn]
    rcases hn with rfl | rfl | rfl | rfl | rfl | rfl | rfl | rfl | rfl
    · exact m_PW_isSign_38
    · exact m_PW_isSign_45
    · exact m_PW_isSign_58
    · exact m_PW_isSign_91
    · exact m_PW_isSign_92
    · exact m_PW_isSign_93
    · exact m_PW_isSign_94
    · exact m_PW_isSign_123
    · exact m_PW_isSign_125
  · rw [show sgn c = false from decide_eq_false hn]
    exact m_PW_isSign_n hc hn
set_option maxHeartbeats 4000000 in
set_option maxRecDepth 100000 in
theorem m_PW_writeHex {h : wH} {p c : Nat} {o : List Nat} (hw : hPW h p o) (hc : c < 2 ^ 24) : PM X M_PW_writeHex 2 0 0 [.ref p, .int (nI c)] h (fun r h' => r = none ∧ hPW h' p (o ++ ([92] ++ [120] ++ [123] ++ hx c ++ [125])) ∧ wOff h h' p 3) := by
  have hw0 := hw
  have kp := hw.1
  refine PM.at (pl := [some (.ref p), some (.int (nI c)), none, none]) rfl rfl (by simp [wle, wen]) ?_
  generalize hEN : wEm X 0 0 _ = EN
  refine w_aload_n d_PW_writeHex_0 rfl rfl ?_
  refine w_bipush (v := nI 92) d_PW_writeHex_1 (by decide) ?_
  refine w_callV (as := [.int (nI 92)]) (st := []) d_PW_writeHex_3 yM_PW_put l_PW_25 vM_PW_put kp rfl rfl rfl rfl (m_PW_put hw0) (by decide) (by decide) (by decide) (by decide) (Nat.le_of_ble_eq_true rfl) ?_
  rintro _ h1 ⟨rfl, w1, o1⟩
  refine w_eq (st' := []) rfl ?_
  have kp1 := w1.1
  refine w_aload_n d_PW_writeHex_6 rfl rfl ?_
  refine w_bipush (v := nI 120) d_PW_writeHex_7 (by decide) ?_
  refine w_callV (as := [.int (nI 120)]) (st := []) d_PW_writeHex_9 yM_PW_put l_PW_25 vM_PW_put kp1 rfl rfl rfl rfl (m_PW_put w1) (by decide) (by decide) (by decide) (by decide) (Nat.le_of_ble_eq_true rfl) ?_
  rintro _ h2 ⟨rfl, w2, o2⟩
  refine w_eq (st' := []) rfl ?_
  have kp2 := w2.1
  refine w_aload_n d_PW_writeHex_12 rfl rfl ?_
  refine w_bipush (v := nI 123) d_PW_writeHex_13 (by decide) ?_
  refine w_callV (as := [.int (nI 123)]) (st := []) d_PW_writeHex_15 yM_PW_put l_PW_25 vM_PW_put kp2 rfl rfl rfl rfl (m_PW_put w2) (by decide) (by decide) (by decide) (by decide) (Nat.le_of_ble_eq_true rfl) ?_
  rintro _ h3 ⟨rfl, w3, o3⟩
  refine w_eq (st' := []) rfl ?_
  have kp3 := w3.1
  refine w_bipush (v := nI 20) d_PW_writeHex_18 (by decide) ?_
  refine w_istore_n d_PW_writeHex_20 (by decide) ?_
  refine w_pl (pl' := [some (.ref p), some (.int (nI c)), some (.int (nI 20)), none]) rfl ?_
  refine w_iload_n d_PW_writeHex_21 rfl ?_
  refine w_if_lt (tgt := 72) d_PW_writeHex_22 rfl (fun z => absurd z (by decide)) (fun _ => ?_)
  refine w_iload_n d_PW_writeHex_25 rfl ?_
  refine w_iload_n d_PW_writeHex_26 rfl ?_
  refine w_ishr d_PW_writeHex_27 ?_
  refine w_topi (y := nI (c / 2 ^ 20)) (pk_shrN (by omega) _ 20 (by decide)) ?_
  refine w_if_ne (tgt := 35) d_PW_writeHex_28 rfl (fun c28 => ?_) (fun c28 => ?_)
  · have z20 : ¬ c / 2 ^ 20 = 0 := fun z => c28 (by rw [z]; decide)
    refine w_iload_n d_PW_writeHex_35 rfl ?_
    refine w_iload_n d_PW_writeHex_36 rfl ?_
    refine w_ishr d_PW_writeHex_37 ?_
    refine w_topi (y := nI (c / 2 ^ 20)) (pk_shrN (by omega) _ 20 (by decide)) ?_
    refine w_bipush (v := nI 15) d_PW_writeHex_38 (by decide) ?_
    refine w_iand d_PW_writeHex_40 ?_
    refine w_topi (y := nI (c / 2 ^ 20 % 16)) (pk_andN (m := nI 15) (by omega) 4 (by decide)) ?_
    refine w_istore_n d_PW_writeHex_41 (by decide) ?_
    refine w_pl (pl' := [some (.ref p), some (.int (nI c)), some (.int (nI 20)), some (.int (nI (c / 2 ^ 20 % 16)))]) rfl ?_
    refine w_aload_n d_PW_writeHex_42 rfl rfl ?_
    refine w_iload_n d_PW_writeHex_43 rfl ?_
    refine w_bipush (v := nI 10) d_PW_writeHex_44 (by decide) ?_
    suffices J63 : WP X M_PW_writeHex (wR 2 0 0) 0 EN 0 0 63 [some (.ref p), some (.int (nI c)), some (.int (nI 20)), some (.int (nI (c / 2 ^ 20 % 16)))] [.int (nI (dg (c / 2 ^ 20 % 16))), .ref p] h3 by
      refine w_icmp_ge (tgt := 56) d_PW_writeHex_46 rfl (fun c46 => ?_) (fun c46 => ?_)
      · have c46 := (nI_leI (a := 10) (b := c / 2 ^ 20 % 16) (by omega) (by omega)).mp c46
        refine w_bipush (v := nI 97) d_PW_writeHex_56 (by decide) ?_
        refine w_iload_n d_PW_writeHex_58 rfl ?_
        refine w_iadd d_PW_writeHex_59 ?_
        refine w_topi (y := nI (97 + c / 2 ^ 20 % 16)) (nI_add _ _) ?_
        refine w_bipush (v := nI 10) d_PW_writeHex_60 (by decide) ?_
        refine w_isub d_PW_writeHex_62 ?_
        refine w_topi (y := nI (97 + c / 2 ^ 20 % 16 - 10)) (pk_sub (by omega)) ?_
        rw [show dg (c / 2 ^ 20 % 16) = 97 + c / 2 ^ 20 % 16 - 10 from if_neg (by omega)] at J63; exact J63
      · have c46 : c / 2 ^ 20 % 16 < 10 := Nat.not_le.mp (fun z => c46 ((nI_leI (a := 10) (b := c / 2 ^ 20 % 16) (by omega) (by omega)).mpr z))
        refine w_bipush (v := nI 48) d_PW_writeHex_49 (by decide) ?_
        refine w_iload_n d_PW_writeHex_51 rfl ?_
        refine w_iadd d_PW_writeHex_52 ?_
        refine w_topi (y := nI (48 + c / 2 ^ 20 % 16)) (nI_add _ _) ?_
        refine w_goto (tgt := 63) d_PW_writeHex_53 rfl ?_
        rw [show dg (c / 2 ^ 20 % 16) = 48 + c / 2 ^ 20 % 16 from if_pos c46] at J63; exact J63
    refine w_callV (as := [.int (nI (dg (c / 2 ^ 20 % 16)))]) (st := []) d_PW_writeHex_63 yM_PW_put l_PW_25 vM_PW_put kp3 rfl rfl rfl rfl (m_PW_put w3) (by decide) (by decide) (by decide) (by decide) (Nat.le_of_ble_eq_true rfl) ?_
    rintro _ h4 ⟨rfl, w4, o4⟩
    refine w_eq (st' := []) rfl ?_
    have kp4 := w4.1
    refine w_iinc (v := nI 16) d_PW_writeHex_66 rfl (by decide) (by decide) ?_
    refine w_pl (pl' := [some (.ref p), some (.int (nI c)), some (.int (nI 16)), some (.int (nI (c / 2 ^ 20 % 16)))]) rfl ?_
    refine w_goto (tgt := 21) d_PW_writeHex_69 rfl ?_
    refine w_iload_n d_PW_writeHex_21 rfl ?_
    refine w_if_lt (tgt := 72) d_PW_writeHex_22 rfl (fun z => absurd z (by decide)) (fun _ => ?_)
    refine w_iload_n d_PW_writeHex_25 rfl ?_
    refine w_iload_n d_PW_writeHex_26 rfl ?_
    refine w_ishr d_PW_writeHex_27 ?_
    refine w_topi (y := nI (c / 2 ^ 16)) (pk_shrN (by omega) _ 16 (by decide)) ?_
    refine w_if_ne (tgt := 35) d_PW_writeHex_28 rfl (fun _ => ?_) (fun z => absurd z (nI_ne0 (by omega) (by omega)))
    refine w_iload_n d_PW_writeHex_35 rfl ?_
    refine w_iload_n d_PW_writeHex_36 rfl ?_
    refine w_ishr d_PW_writeHex_37 ?_
    refine w_topi (y := nI (c / 2 ^ 16)) (pk_shrN (by omega) _ 16 (by decide)) ?_
    refine w_bipush (v := nI 15) d_PW_writeHex_38 (by decide) ?_
    refine w_iand d_PW_writeHex_40 ?_
    refine w_topi (y := nI (c / 2 ^ 16 % 16)) (pk_andN (m := nI 15) (by omega) 4 (by decide)) ?_
    refine w_istore_n d_PW_writeHex_41 (by decide) ?_
    refine w_pl (pl' := [some (.ref p), some (.int (nI c)), some (.int (nI 16)), some (.int (nI (c / 2 ^ 16 % 16)))]) rfl ?_
    refine w_aload_n d_PW_writeHex_42 rfl rfl ?_
    refine w_iload_n d_PW_writeHex_43 rfl ?_
    refine w_bipush (v := nI 10) d_PW_writeHex_44 (by decide) ?_
    suffices J63 : WP X M_PW_writeHex (wR 2 0 0) 0 EN 0 0 63 [some (.ref p), some (.int (nI c)), some (.int (nI 16)), some (.int (nI (c / 2 ^ 16 % 16)))] [.int (nI (dg (c / 2 ^ 16 % 16))), .ref p] h4 by
      refine w_icmp_ge (tgt := 56) d_PW_writeHex_46 rfl (fun c46 => ?_) (fun c46 => ?_)
      · have c46 := (nI_leI (a := 10) (b := c / 2 ^ 16 % 16) (by omega) (by omega)).mp c46
        refine w_bipush (v := nI 97) d_PW_writeHex_56 (by decide) ?_
        refine w_iload_n d_PW_writeHex_58 rfl ?_
        refine w_iadd d_PW_writeHex_59 ?_
        refine w_topi (y := nI (97 + c / 2 ^ 16 % 16)) (nI_add _ _) ?_
        refine w_bipush (v := nI 10) d_PW_writeHex_60 (by decide) ?_
        refine w_isub d_PW_writeHex_62 ?_
        refine w_topi (y := nI (97 + c / 2 ^ 16 % 16 - 10)) (pk_sub (by omega)) ?_
        rw [show dg (c / 2 ^ 16 % 16) = 97 + c / 2 ^ 16 % 16 - 10 from if_neg (by omega)] at J63; exact J63
      · have c46 : c / 2 ^ 16 % 16 < 10 := Nat.not_le.mp (fun z => c46 ((nI_leI (a := 10) (b := c / 2 ^ 16 % 16) (by omega) (by omega)).mpr z))
        refine w_bipush (v := nI 48) d_PW_writeHex_49 (by decide) ?_
        refine w_iload_n d_PW_writeHex_51 rfl ?_
        refine w_iadd d_PW_writeHex_52 ?_
        refine w_topi (y := nI (48 + c / 2 ^ 16 % 16)) (nI_add _ _) ?_
        refine w_goto (tgt := 63) d_PW_writeHex_53 rfl ?_
        rw [show dg (c / 2 ^ 16 % 16) = 48 + c / 2 ^ 16 % 16 from if_pos c46] at J63; exact J63
    refine w_callV (as := [.int (nI (dg (c / 2 ^ 16 % 16)))]) (st := []) d_PW_writeHex_63 yM_PW_put l_PW_25 vM_PW_put kp4 rfl rfl rfl rfl (m_PW_put w4) (by decide) (by decide) (by decide) (by decide) (Nat.le_of_ble_eq_true rfl) ?_
    rintro _ h5 ⟨rfl, w5, o5⟩
    refine w_eq (st' := []) rfl ?_
    have kp5 := w5.1
    refine w_iinc (v := nI 12) d_PW_writeHex_66 rfl (by decide) (by decide) ?_
    refine w_pl (pl' := [some (.ref p), some (.int (nI c)), some (.int (nI 12)), some (.int (nI (c / 2 ^ 16 % 16)))]) rfl ?_
    refine w_goto (tgt := 21) d_PW_writeHex_69 rfl ?_
    refine w_iload_n d_PW_writeHex_21 rfl ?_
    refine w_if_lt (tgt := 72) d_PW_writeHex_22 rfl (fun z => absurd z (by decide)) (fun _ => ?_)
    refine w_iload_n d_PW_writeHex_25 rfl ?_
    refine w_iload_n d_PW_writeHex_26 rfl ?_
    refine w_ishr d_PW_writeHex_27 ?_
    refine w_topi (y := nI (c / 2 ^ 12)) (pk_shrN (by omega) _ 12 (by decide)) ?_
    refine w_if_ne (tgt := 35) d_PW_writeHex_28 rfl (fun _ => ?_) (fun z => absurd z (nI_ne0 (by omega) (by omega)))
    refine w_iload_n d_PW_writeHex_35 rfl ?_
    refine w_iload_n d_PW_writeHex_36 rfl ?_
    refine w_ishr d_PW_writeHex_37 ?_
    refine w_topi (y := nI (c / 2 ^ 12)) (pk_shrN (by omega) _ 12 (by decide)) ?_
    refine w_bipush (v := nI 15) d_PW_writeHex_38 (by decide) ?_
    refine w_iand d_PW_writeHex_40 ?_
    refine w_topi (y := nI (c / 2 ^ 12 % 16)) (pk_andN (m := nI 15) (by omega) 4 (by decide)) ?_
    refine w_istore_n d_PW_writeHex_41 (by decide) ?_
    refine w_pl (pl' := [some (.ref p), some (.int (nI c)), some (.int (nI 12)), some (.int (nI (c / 2 ^ 12 % 16)))]) rfl ?_
    refine w_aload_n d_PW_writeHex_42 rfl rfl ?_
    refine w_iload_n d_PW_writeHex_43 rfl ?_
    refine w_bipush (v := nI 10) d_PW_writeHex_44 (by decide) ?_
    suffices J63 : WP X M_PW_writeHex (wR 2 0 0) 0 EN 0 0 63 [some (.ref p), some (.int (nI c)), some (.int (nI 12)), some (.int (nI (c / 2 ^ 12 % 16)))] [.int (nI (dg (c / 2 ^ 12 % 16))), .ref p] h5 by
      refine w_icmp_ge (tgt := 56) d_PW_writeHex_46 rfl (fun c46 => ?_) (fun c46 => ?_)
      · have c46 := (nI_leI (a := 10) (b := c / 2 ^ 12 % 16) (by omega) (by omega)).mp c46
        refine w_bipush (v := nI 97) d_PW_writeHex_56 (by decide) ?_
        refine w_iload_n d_PW_writeHex_58 rfl ?_
        refine w_iadd d_PW_writeHex_59 ?_
        refine w_topi (y := nI (97 + c / 2 ^ 12 % 16)) (nI_add _ _) ?_
        refine w_bipush (v := nI 10) d_PW_writeHex_60 (by decide) ?_
        refine w_isub d_PW_writeHex_62 ?_
        refine w_topi (y := nI (97 + c / 2 ^ 12 % 16 - 10)) (pk_sub (by omega)) ?_
        rw [show dg (c / 2 ^ 12 % 16) = 97 + c / 2 ^ 12 % 16 - 10 from if_neg (by omega)] at J63; exact J63
      · have c46 : c / 2 ^ 12 % 16 < 10 := Nat.not_le.mp (fun z => c46 ((nI_leI (a := 10) (b := c / 2 ^ 12 % 16) (by omega) (by omega)).mpr z))
        refine w_bipush (v := nI 48) d_PW_writeHex_49 (by decide) ?_
        refine w_iload_n d_PW_writeHex_51 rfl ?_
        refine w_iadd d_PW_writeHex_52 ?_
        refine w_topi (y := nI (48 + c / 2 ^ 12 % 16)) (nI_add _ _) ?_
        refine w_goto (tgt := 63) d_PW_writeHex_53 rfl ?_
        rw [show dg (c / 2 ^ 12 % 16) = 48 + c / 2 ^ 12 % 16 from if_pos c46] at J63; exact J63
    refine w_callV (as := [.int (nI (dg (c / 2 ^ 12 % 16)))]) (st := []) d_PW_writeHex_63 yM_PW_put l_PW_25 vM_PW_put kp5 rfl rfl rfl rfl (m_PW_put w5) (by decide) (by decide) (by decide) (by decide) (Nat.le_of_ble_eq_true rfl) ?_
    rintro _ h6 ⟨rfl, w6, o6⟩
    refine w_eq (st' := []) rfl ?_
    have kp6 := w6.1
    refine w_iinc (v := nI 8) d_PW_writeHex_66 rfl (by decide) (by decide) ?_
    refine w_pl (pl' := [some (.ref p), some (.int (nI c)), some (.int (nI 8)), some (.int (nI (c / 2 ^ 12 % 16)))]) rfl ?_
    refine w_goto (tgt := 21) d_PW_writeHex_69 rfl ?_
    refine w_iload_n d_PW_writeHex_21 rfl ?_
    refine w_if_lt (tgt := 72) d_PW_writeHex_22 rfl (fun z => absurd z (by decide)) (fun _ => ?_)
    refine w_iload_n d_PW_writeHex_25 rfl ?_
    refine w_iload_n d_PW_writeHex_26 rfl ?_
    refine w_ishr d_PW_writeHex_27 ?_
    refine w_topi (y := nI (c / 2 ^ 8)) (pk_shrN (by omega) _ 8 (by decide)) ?_
    refine w_if_ne (tgt := 35) d_PW_writeHex_28 rfl (fun _ => ?_) (fun z => absurd z (nI_ne0 (by omega) (by omega)))
    refine w_iload_n d_PW_writeHex_35 rfl ?_
    refine w_iload_n d_PW_writeHex_36 rfl ?_
    refine w_ishr d_PW_writeHex_37 ?_
    refine w_topi (y := nI (c / 2 ^ 8)) (pk_shrN (by omega) _ 8 (by decide)) ?_
    refine w_bipush (v := nI 15) d_PW_writeHex_38 (by decide) ?_
    refine w_iand d_PW_writeHex_40 ?_
    refine w_topi (y := nI (c / 2 ^ 8 % 16)) (pk_andN (m := nI 15) (by omega) 4 (by decide)) ?_
    refine w_istore_n d_PW_writeHex_41 (by decide) ?_
    refine w_pl (pl' := [some (.ref p), some (.int (nI c)), some (.int (nI 8)), some (.int (nI (c / 2 ^ 8 % 16)))]) rfl ?_
    refine w_aload_n d_PW_writeHex_42 rfl rfl ?_
    refine w_iload_n d_PW_writeHex_43 rfl ?_
    refine w_bipush (v := nI 10) d_PW_writeHex_44 (by decide) ?_
    suffices J63 : WP X M_PW_writeHex (wR 2 0 0) 0 EN 0 0 63 [some (.ref p), some (.int (nI c)), some (.int (nI 8)), some (.int (nI (c / 2 ^ 8 % 16)))] [.int (nI (dg (c / 2 ^ 8 % 16))), .ref p] h6 by
      refine w_icmp_ge (tgt := 56) d_PW_writeHex_46 rfl (fun c46 => ?_) (fun c46 => ?_)
      · have c46 := (nI_leI (a := 10) (b := c / 2 ^ 8 % 16) (by omega) (by omega)).mp c46
        refine w_bipush (v := nI 97) d_PW_writeHex_56 (by decide) ?_
        refine w_iload_n d_PW_writeHex_58 rfl ?_
        refine w_iadd d_PW_writeHex_59 ?_
        refine w_topi (y := nI (97 + c / 2 ^ 8 % 16)) (nI_add _ _) ?_
        refine w_bipush (v := nI 10) d_PW_writeHex_60 (by decide) ?_
        refine w_isub d_PW_writeHex_62 ?_
        refine w_topi (y := nI (97 + c / 2 ^ 8 % 16 - 10)) (pk_sub (by omega)) ?_
        rw [show dg (c / 2 ^ 8 % 16) = 97 + c / 2 ^ 8 % 16 - 10 from if_neg (by omega)] at J63; exact J63
      · have c46 : c / 2 ^ 8 % 16 < 10 := Nat.not_le.mp (fun z => c46 ((nI_leI (a := 10) (b := c / 2 ^ 8 % 16) (by omega) (by omega)).mpr z))
        refine w_bipush (v := nI 48) d_PW_writeHex_49 (by decide) ?_
        refine w_iload_n d_PW_writeHex_51 rfl ?_
        refine w_iadd d_PW_writeHex_52 ?_
        refine w_topi (y := nI (48 + c / 2 ^ 8 % 16)) (nI_add _ _) ?_
        refine w_goto (tgt := 63) d_PW_writeHex_53 rfl ?_
        rw [show dg (c / 2 ^ 8 % 16) = 48 + c / 2 ^ 8 % 16 from if_pos c46] at J63; exact J63
    refine w_callV (as := [.int (nI (dg (c / 2 ^ 8 % 16)))]) (st := []) d_PW_writeHex_63 yM_PW_put l_PW_25 vM_PW_put kp6 rfl rfl rfl rfl (m_PW_put w6) (by decide) (by decide) (by decide) (by decide) (Nat.le_of_ble_eq_true rfl) ?_
    rintro _ h7 ⟨rfl, w7, o7⟩
    refine w_eq (st' := []) rfl ?_
    have kp7 := w7.1
    refine w_iinc (v := nI 4) d_PW_writeHex_66 rfl (by decide) (by decide) ?_
    refine w_pl (pl' := [some (.ref p), some (.int (nI c)), some (.int (nI 4)), some (.int (nI (c / 2 ^ 8 % 16)))]) rfl ?_
    refine w_goto (tgt := 21) d_PW_writeHex_69 rfl ?_
    refine w_iload_n d_PW_writeHex_21 rfl ?_
    refine w_if_lt (tgt := 72) d_PW_writeHex_22 rfl (fun z => absurd z (by decide)) (fun _ => ?_)
    refine w_iload_n d_PW_writeHex_25 rfl ?_
    refine w_iload_n d_PW_writeHex_26 rfl ?_
    refine w_ishr d_PW_writeHex_27 ?_
    refine w_topi (y := nI (c / 2 ^ 4)) (pk_shrN (by omega) _ 4 (by decide)) ?_
    refine w_if_ne (tgt := 35) d_PW_writeHex_28 rfl (fun _ => ?_) (fun z => absurd z (nI_ne0 (by omega) (by omega)))
    refine w_iload_n d_PW_writeHex_35 rfl ?_
    refine w_iload_n d_PW_writeHex_36 rfl ?_
    refine w_ishr d_PW_writeHex_37 ?_
    refine w_topi (y := nI (c / 2 ^ 4)) (pk_shrN (by omega) _ 4 (by decide)) ?_
    refine w_bipush (v := nI 15) d_PW_writeHex_38 (by decide) ?_
    refine w_iand d_PW_writeHex_40 ?_
    refine w_topi (y := nI (c / 2 ^ 4 % 16)) (pk_andN (m := nI 15) (by omega) 4 (by decide)) ?_
    refine w_istore_n d_PW_writeHex_41 (by decide) ?_
    refine w_pl (pl' := [some (.ref p), some (.int (nI c)), some (.int (nI 4)), some (.int (nI (c / 2 ^ 4 % 16)))]) rfl ?_
    refine w_aload_n d_PW_writeHex_42 rfl rfl ?_
    refine w_iload_n d_PW_writeHex_43 rfl ?_
    refine w_bipush (v := nI 10) d_PW_writeHex_44 (by decide) ?_
    suffices J63 : WP X M_PW_writeHex (wR 2 0 0) 0 EN 0 0 63 [some (.ref p), some (.int (nI c)), some (.int (nI 4)), some (.int (nI (c / 2 ^ 4 % 16)))] [.int (nI (dg (c / 2 ^ 4 % 16))), .ref p] h7 by
      refine w_icmp_ge (tgt := 56) d_PW_writeHex_46 rfl (fun c46 => ?_) (fun c46 => ?_)
      · have c46 := (nI_leI (a := 10) (b := c / 2 ^ 4 % 16) (by omega) (by omega)).mp c46
        refine w_bipush (v := nI 97) d_PW_writeHex_56 (by decide) ?_
        refine w_iload_n d_PW_writeHex_58 rfl ?_
        refine w_iadd d_PW_writeHex_59 ?_
        refine w_topi (y := nI (97 + c / 2 ^ 4 % 16)) (nI_add _ _) ?_
        refine w_bipush (v := nI 10) d_PW_writeHex_60 (by decide) ?_
        refine w_isub d_PW_writeHex_62 ?_
        refine w_topi (y := nI (97 + c / 2 ^ 4 % 16 - 10)) (pk_sub (by omega)) ?_
        rw [show dg (c / 2 ^ 4 % 16) = 97 + c / 2 ^ 4 % 16 - 10 from if_neg (by omega)] at J63; exact J63
      · have c46 : c / 2 ^ 4 % 16 < 10 := Nat.not_le.mp (fun z => c46 ((nI_leI (a := 10) (b := c / 2 ^ 4 % 16) (by omega) (by omega)).mpr z))
        refine w_bipush (v := nI 48) d_PW_writeHex_49 (by decide) ?_
        refine w_iload_n d_PW_writeHex_51 rfl ?_
        refine w_iadd d_PW_writeHex_52 ?_
        refine w_topi (y := nI (48 + c / 2 ^ 4 % 16)) (nI_add _ _) ?_
        refine w_goto (tgt := 63) d_PW_writeHex_53 rfl ?_
        rw [show dg (c / 2 ^ 4 % 16) = 48 + c / 2 ^ 4 % 16 from if_pos c46] at J63; exact J63
    refine w_callV (as := [.int (nI (dg (c / 2 ^ 4 % 16)))]) (st := []) d_PW_writeHex_63 yM_PW_put l_PW_25 vM_PW_put kp7 rfl rfl rfl rfl (m_PW_put w7) (by decide) (by decide) (by decide) (by decide) (Nat.le_of_ble_eq_true rfl) ?_
    rintro _ h8 ⟨rfl, w8, o8⟩
    refine w_eq (st' := []) rfl ?_
    have kp8 := w8.1
    refine w_iinc (v := nI 0) d_PW_writeHex_66 rfl (by decide) (by decide) ?_
    refine w_pl (pl' := [some (.ref p), some (.int (nI c)), some (.int (nI 0)), some (.int (nI (c / 2 ^ 4 % 16)))]) rfl ?_
    refine w_goto (tgt := 21) d_PW_writeHex_69 rfl ?_
    refine w_iload_n d_PW_writeHex_21 rfl ?_
    refine w_if_lt (tgt := 72) d_PW_writeHex_22 rfl (fun z => absurd z (by decide)) (fun _ => ?_)
    refine w_iload_n d_PW_writeHex_25 rfl ?_
    refine w_iload_n d_PW_writeHex_26 rfl ?_
    refine w_ishr d_PW_writeHex_27 ?_
    refine w_topi (y := nI (c / 2 ^ 0)) (pk_shrN (by omega) _ 0 (by decide)) ?_
    refine w_if_ne (tgt := 35) d_PW_writeHex_28 rfl (fun _ => ?_) (fun z => absurd z (nI_ne0 (by omega) (by omega)))
    refine w_iload_n d_PW_writeHex_35 rfl ?_
    refine w_iload_n d_PW_writeHex_36 rfl ?_
    refine w_ishr d_PW_writeHex_37 ?_
    refine w_topi (y := nI (c / 2 ^ 0)) (pk_shrN (by omega) _ 0 (by decide)) ?_
    refine w_bipush (v := nI 15) d_PW_writeHex_38 (by decide) ?_
    refine w_iand d_PW_writeHex_40 ?_
    refine w_topi (y := nI (c / 2 ^ 0 % 16)) (pk_andN (m := nI 15) (by omega) 4 (by decide)) ?_
    refine w_istore_n d_PW_writeHex_41 (by decide) ?_
    refine w_pl (pl' := [some (.ref p), some (.int (nI c)), some (.int (nI 0)), some (.int (nI (c / 2 ^ 0 % 16)))]) rfl ?_
    refine w_aload_n d_PW_writeHex_42 rfl rfl ?_
    refine w_iload_n d_PW_writeHex_43 rfl ?_
    refine w_bipush (v := nI 10) d_PW_writeHex_44 (by decide) ?_
    suffices J63 : WP X M_PW_writeHex (wR 2 0 0) 0 EN 0 0 63 [some (.ref p), some (.int (nI c)), some (.int (nI 0)), some (.int (nI (c / 2 ^ 0 % 16)))] [.int (nI (dg (c / 2 ^ 0 % 16))), .ref p] h8 by
      refine w_icmp_ge (tgt := 56) d_PW_writeHex_46 rfl (fun c46 => ?_) (fun c46 => ?_)
      · have c46 := (nI_leI (a := 10) (b := c / 2 ^ 0 % 16) (by omega) (by omega)).mp c46
        refine w_bipush (v := nI 97) d_PW_writeHex_56 (by decide) ?_
        refine w_iload_n d_PW_writeHex_58 rfl ?_
        refine w_iadd d_PW_writeHex_59 ?_
        refine w_topi (y := nI (97 + c / 2 ^ 0 % 16)) (nI_add _ _) ?_
        refine w_bipush (v := nI 10) d_PW_writeHex_60 (by decide) ?_
        refine w_isub d_PW_writeHex_62 ?_
        refine w_topi (y := nI (97 + c / 2 ^ 0 % 16 - 10)) (pk_sub (by omega)) ?_
        rw [show dg (c / 2 ^ 0 % 16) = 97 + c / 2 ^ 0 % 16 - 10 from if_neg (by omega)] at J63; exact J63
      · have c46 : c / 2 ^ 0 % 16 < 10 := Nat.not_le.mp (fun z => c46 ((nI_leI (a := 10) (b := c / 2 ^ 0 % 16) (by omega) (by omega)).mpr z))
        refine w_bipush (v := nI 48) d_PW_writeHex_49 (by decide) ?_
        refine w_iload_n d_PW_writeHex_51 rfl ?_
        refine w_iadd d_PW_writeHex_52 ?_
        refine w_topi (y := nI (48 + c / 2 ^ 0 % 16)) (nI_add _ _) ?_
        refine w_goto (tgt := 63) d_PW_writeHex_53 rfl ?_
        rw [show dg (c / 2 ^ 0 % 16) = 48 + c / 2 ^ 0 % 16 from if_pos c46] at J63; exact J63
    refine w_callV (as := [.int (nI (dg (c / 2 ^ 0 % 16)))]) (st := []) d_PW_writeHex_63 yM_PW_put l_PW_25 vM_PW_put kp8 rfl rfl rfl rfl (m_PW_put w8) (by decide) (by decide) (by decide) (by decide) (Nat.le_of_ble_eq_true rfl) ?_
    rintro _ h9 ⟨rfl, w9, o9⟩
    refine w_eq (st' := []) rfl ?_
    have kp9 := w9.1
    refine w_iinc (v := (-4)) d_PW_writeHex_66 rfl (by decide) (by decide) ?_
    refine w_pl (pl' := [some (.ref p), some (.int (nI c)), some (.int ((-4))), some (.int (nI (c / 2 ^ 0 % 16)))]) rfl ?_
    refine w_goto (tgt := 21) d_PW_writeHex_69 rfl ?_
    refine w_iload_n d_PW_writeHex_21 rfl ?_
    refine w_if_lt (tgt := 72) d_PW_writeHex_22 rfl (fun _ => ?_) (fun z => absurd (by decide) z)
    refine w_aload_n d_PW_writeHex_72 rfl rfl ?_
    refine w_bipush (v := nI 125) d_PW_writeHex_73 (by decide) ?_
    refine w_callV (as := [.int (nI 125)]) (st := []) d_PW_writeHex_75 yM_PW_put l_PW_25 vM_PW_put kp9 rfl rfl rfl rfl (m_PW_put w9) (by decide) (by decide) (by decide) (by decide) (Nat.le_of_ble_eq_true rfl) ?_
    rintro _ h10 ⟨rfl, w10, o10⟩
    refine w_eq (st' := []) rfl ?_
    have kp10 := w10.1
    rw [← hEN]
    refine w_vret d_PW_writeHex_78 rfl ?_
    have hxe : hx c = [dg (c / 2 ^ 20 % 16), dg (c / 2 ^ 16 % 16), dg (c / 2 ^ 12 % 16), dg (c / 2 ^ 8 % 16), dg (c / 2 ^ 4 % 16), dg (c / 2 ^ 0 % 16)] := by unfold hx; rw [if_pos z20]
    refine ⟨rfl, ?_, (((((((((o1.tr o2).tr o3).tr o4).tr o5).tr o6).tr o7).tr o8).tr o9).tr o10)⟩
    rw [hxe]
    have q := w10
    simp only [List.append_assoc, List.cons_append, List.nil_append] at q ⊢
    exact q
  · have z20 : c / 2 ^ 20 = 0 := by
      rcases Nat.eq_zero_or_pos (c / 2 ^ 20) with z | z
      · exact z
      · exact absurd c28 (nI_ne0 z (by omega))
    refine w_iload_n d_PW_writeHex_31 rfl ?_
    refine w_if_ne (tgt := 66) d_PW_writeHex_32 rfl (fun _ => ?_) (fun z => absurd z (by decide))
    refine w_iinc (v := nI 16) d_PW_writeHex_66 rfl (by decide) (by decide) ?_
    refine w_pl (pl' := [some (.ref p), some (.int (nI c)), some (.int (nI 16)), none]) rfl ?_
    refine w_goto (tgt := 21) d_PW_writeHex_69 rfl ?_
    refine w_iload_n d_PW_writeHex_21 rfl ?_
    refine w_if_lt (tgt := 72) d_PW_writeHex_22 rfl (fun z => absurd z (by decide)) (fun _ => ?_)
    refine w_iload_n d_PW_writeHex_25 rfl ?_
    refine w_iload_n d_PW_writeHex_26 rfl ?_
    refine w_ishr d_PW_writeHex_27 ?_
    refine w_topi (y := nI (c / 2 ^ 16)) (pk_shrN (by omega) _ 16 (by decide)) ?_
    refine w_if_ne (tgt := 35) d_PW_writeHex_28 rfl (fun c28 => ?_) (fun c28 => ?_)
    · have z16 : ¬ c / 2 ^ 16 = 0 := fun z => c28 (by rw [z]; decide)
      refine w_iload_n d_PW_writeHex_35 rfl ?_
      refine w_iload_n d_PW_writeHex_36 rfl ?_
      refine w_ishr d_PW_writeHex_37 ?_
      refine w_topi (y := nI (c / 2 ^ 16)) (pk_shrN (by omega) _ 16 (by decide)) ?_
      refine w_bipush (v := nI 15) d_PW_writeHex_38 (by decide) ?_
      refine w_iand d_PW_writeHex_40 ?_
      refine w_topi (y := nI (c / 2 ^ 16 % 16)) (pk_andN (m := nI 15) (by omega) 4 (by decide)) ?_
      refine w_istore_n d_PW_writeHex_41 (by decide) ?_
      refine w_pl (pl' := [some (.ref p), some (.int (nI c)), some (.int (nI 16)), some (.int (nI (c / 2 ^ 16 % 16)))]) rfl ?_
      refine w_aload_n d_PW_writeHex_42 rfl rfl ?_
      refine w_iload_n d_PW_writeHex_43 rfl ?_
      refine w_bipush (v := nI 10) d_PW_writeHex_44 (by decide) ?_
      suffices J63 : WP X M_PW_writeHex (wR 2 0 0) 0 EN 0 0 63 [some (.ref p), some (.int (nI c)), some (.int (nI 16)), some (.int (nI (c / 2 ^ 16 % 16)))] [.int (nI (dg (c / 2 ^ 16 % 16))), .ref p] h3 by
        refine w_icmp_ge (tgt := 56) d_PW_writeHex_46 rfl (fun c46 => ?_) (fun c46 => ?_)
        · have c46 := (nI_leI (a := 10) (b := c / 2 ^ 16 % 16) (by omega) (by omega)).mp c46
          refine w_bipush (v := nI 97) d_PW_writeHex_56 (by decide) ?_
          refine w_iload_n d_PW_writeHex_58 rfl ?_
          refine w_iadd d_PW_writeHex_59 ?_
          refine w_topi (y := nI (97 + c / 2 ^ 16 % 16)) (nI_add _ _) ?_
          refine w_bipush (v := nI 10) d_PW_writeHex_60 (by decide) ?_
          refine w_isub d_PW_writeHex_62 ?_
          refine w_topi (y := nI (97 + c / 2 ^ 16 % 16 - 10)) (pk_sub (by omega)) ?_
          rw [show dg (c / 2 ^ 16 % 16) = 97 + c / 2 ^ 16 % 16 - 10 from if_neg (by omega)] at J63; exact J63
        · have c46 : c / 2 ^ 16 % 16 < 10 := Nat.not_le.mp (fun z => c46 ((nI_leI (a := 10) (b := c / 2 ^ 16 % 16) (by omega) (by omega)).mpr z))
          refine w_bipush (v := nI 48) d_PW_writeHex_49 (by decide) ?_
          refine w_iload_n d_PW_writeHex_51 rfl ?_
          refine w_iadd d_PW_writeHex_52 ?_
          refine w_topi (y := nI (48 + c / 2 ^ 16 % 16)) (nI_add _ _) ?_
          refine w_goto (tgt := 63) d_PW_writeHex_53 rfl ?_
          rw [show dg (c / 2 ^ 16 % 16) = 48 + c / 2 ^ 16 % 16 from if_pos c46] at J63; exact J63
      refine w_callV (as := [.int (nI (dg (c / 2 ^ 16 % 16)))]) (st := []) d_PW_writeHex_63 yM_PW_put l_PW_25 vM_PW_put kp3 rfl rfl rfl rfl (m_PW_put w3) (by decide) (by decide) (by decide) (by decide) (Nat.le_of_ble_eq_true rfl) ?_
      rintro _ h4 ⟨rfl, w4, o4⟩
      refine w_eq (st' := []) rfl ?_
      have kp4 := w4.1
      refine w_iinc (v := nI 12) d_PW_writeHex_66 rfl (by decide) (by decide) ?_
      refine w_pl (pl' := [some (.ref p), some (.int (nI c)), some (.int (nI 12)), some (.int (nI (c / 2 ^ 16 % 16)))]) rfl ?_
      refine w_goto (tgt := 21) d_PW_writeHex_69 rfl ?_
      refine w_iload_n d_PW_writeHex_21 rfl ?_
      refine w_if_lt (tgt := 72) d_PW_writeHex_22 rfl (fun z => absurd z (by decide)) (fun _ => ?_)
      refine w_iload_n d_PW_writeHex_25 rfl ?_
      refine w_iload_n d_PW_writeHex_26 rfl ?_
      refine w_ishr d_PW_writeHex_27 ?_
      refine w_topi (y := nI (c / 2 ^ 12)) (pk_shrN (by omega) _ 12 (by decide)) ?_
      refine w_if_ne (tgt := 35) d_PW_writeHex_28 rfl (fun _ => ?_) (fun z => absurd z (nI_ne0 (by omega) (by omega)))
      refine w_iload_n d_PW_writeHex_35 rfl ?_
      refine w_iload_n d_PW_writeHex_36 rfl ?_
      refine w_ishr d_PW_writeHex_37 ?_
      refine w_topi (y := nI (c / 2 ^ 12)) (pk_shrN (by omega) _ 12 (by decide)) ?_
      refine w_bipush (v := nI 15) d_PW_writeHex_38 (by decide) ?_
      refine w_iand d_PW_writeHex_40 ?_
      refine w_topi (y := nI (c / 2 ^ 12 % 16)) (pk_andN (m := nI 15) (by omega) 4 (by decide)) ?_
      refine w_istore_n d_PW_writeHex_41 (by decide) ?_
      refine w_pl (pl' := [some (.ref p), some (.int (nI c)), some (.int (nI 12)), some (.int (nI (c / 2 ^ 12 % 16)))]) rfl ?_
      refine w_aload_n d_PW_writeHex_42 rfl rfl ?_
      refine w_iload_n d_PW_writeHex_43 rfl ?_
      refine w_bipush (v := nI 10) d_PW_writeHex_44 (by decide) ?_
      suffices J63 : WP X M_PW_writeHex (wR 2 0 0) 0 EN 0 0 63 [some (.ref p), some (.int (nI c)), some (.int (nI 12)), some (.int (nI (c / 2 ^ 12 % 16)))] [.int (nI (dg (c / 2 ^ 12 % 16))), .ref p] h4 by
        refine w_icmp_ge (tgt := 56) d_PW_writeHex_46 rfl (fun c46 => ?_) (fun c46 => ?_)
        · have c46 := (nI_leI (a := 10) (b := c / 2 ^ 12 % 16) (by omega) (by omega)).mp c46
          refine w_bipush (v := nI 97) d_PW_writeHex_56 (by decide) ?_
          refine w_iload_n d_PW_writeHex_58 rfl ?_
          refine w_iadd d_PW_writeHex_59 ?_
          refine w_topi (y := nI (97 + c / 2 ^ 12 % 16)) (nI_add _ _) ?_
          refine w_bipush (v := nI 10) d_PW_writeHex_60 (by decide) ?_
          refine w_isub d_PW_writeHex_62 ?_
          refine w_topi (y := nI (97 + c / 2 ^ 12 % 16 - 10)) (pk_sub (by omega)) ?_
          rw [show dg (c / 2 ^ 12 % 16) = 97 + c / 2 ^ 12 % 16 - 10 from if_neg (by omega)] at J63; exact J63
        · have c46 : c / 2 ^ 12 % 16 < 10 := Nat.not_le.mp (fun z => c46 ((nI_leI (a := 10) (b := c / 2 ^ 12 % 16) (by omega) (by omega)).mpr z))
          refine w_bipush (v := nI 48) d_PW_writeHex_49 (by decide) ?_
          refine w_iload_n d_PW_writeHex_51 rfl ?_
          refine w_iadd d_PW_writeHex_52 ?_
          refine w_topi (y := nI (48 + c / 2 ^ 12 % 16)) (nI_add _ _) ?_
          refine w_goto (tgt := 63) d_PW_writeHex_53 rfl ?_
          rw [show dg (c / 2 ^ 12 % 16) = 48 + c / 2 ^ 12 % 16 from if_pos c46] at J63; exact J63
      refine w_callV (as := [.int (nI (dg (c / 2 ^ 12 % 16)))]) (st := []) d_PW_writeHex_63 yM_PW_put l_PW_25 vM_PW_put kp4 rfl rfl rfl rfl (m_PW_put w4) (by decide) (by decide) (by decide) (by decide) (Nat.le_of_ble_eq_true rfl) ?_
      rintro _ h5 ⟨rfl, w5, o5⟩
      refine w_eq (st' := []) rfl ?_
      have kp5 := w5.1
      refine w_iinc (v := nI 8) d_PW_writeHex_66 rfl (by decide) (by decide) ?_
      refine w_pl (pl' := [some (.ref p), some (.int (nI c)), some (.int (nI 8)), some (.int (nI (c / 2 ^ 12 % 16)))]) rfl ?_
      refine w_goto (tgt := 21) d_PW_writeHex_69 rfl ?_
      refine w_iload_n d_PW_writeHex_21 rfl ?_
      refine w_if_lt (tgt := 72) d_PW_writeHex_22 rfl (fun z => absurd z (by decide)) (fun _ => ?_)
      refine w_iload_n d_PW_writeHex_25 rfl ?_
      refine w_iload_n d_PW_writeHex_26 rfl ?_
      refine w_ishr d_PW_writeHex_27 ?_
      refine w_topi (y := nI (c / 2 ^ 8)) (pk_shrN (by omega) _ 8 (by decide)) ?_
      refine w_if_ne (tgt := 35) d_PW_writeHex_28 rfl (fun _ => ?_) (fun z => absurd z (nI_ne0 (by omega) (by omega)))
      refine w_iload_n d_PW_writeHex_35 rfl ?_
      refine w_iload_n d_PW_writeHex_36 rfl ?_
      refine w_ishr d_PW_writeHex_37 ?_
      refine w_topi (y := nI (c / 2 ^ 8)) (pk_shrN (by omega) _ 8 (by decide)) ?_
      refine w_bipush (v := nI 15) d_PW_writeHex_38 (by decide) ?_
      refine w_iand d_PW_writeHex_40 ?_
      refine w_topi (y := nI (c / 2 ^ 8 % 16)) (pk_andN (m := nI 15) (by omega) 4 (by decide)) ?_
      refine w_istore_n d_PW_writeHex_41 (by decide) ?_
      refine w_pl (pl' := [some (.ref p), some (.int (nI c)), some (.int (nI 8)), some (.int (nI (c / 2 ^ 8 % 16)))]) rfl ?_
      refine w_aload_n d_PW_writeHex_42 rfl rfl ?_
      refine w_iload_n d_PW_writeHex_43 rfl ?_
      refine w_bipush (v := nI 10) d_PW_writeHex_44 (by decide) ?_
      suffices J63 : WP X M_PW_writeHex (wR 2 0 0) 0 EN 0 0 63 [some (.ref p), some (.int (nI c)), some (.int (nI 8)), some (.int (nI (c / 2 ^ 8 % 16)))] [.int (nI (dg (c / 2 ^ 8 % 16))), .ref p] h5 by
        refine w_icmp_ge (tgt := 56) d_PW_writeHex_46 rfl (fun c46 => ?_) (fun c46 => ?_)
        · have c46 := (nI_leI (a := 10) (b := c / 2 ^ 8 % 16) (by omega) (by omega)).mp c46
          refine w_bipush (v := nI 97) d_PW_writeHex_56 (by decide) ?_
          refine w_iload_n d_PW_writeHex_58 rfl ?_
          refine w_iadd d_PW_writeHex_59 ?_
          refine w_topi (y := nI (97 + c / 2 ^ 8 % 16)) (nI_add _ _) ?_
          refine w_bipush (v := nI 10) d_PW_writeHex_60 (by decide) ?_
          refine w_isub d_PW_writeHex_62 ?_
          refine w_topi (y := nI (97 + c / 2 ^ 8 % 16 - 10)) (pk_sub (by omega)) ?_
          rw [show dg (c / 2 ^ 8 % 16) = 97 + c / 2 ^ 8 % 16 - 10 from if_neg (by omega)] at J63; exact J63
        · have c46 : c / 2 ^ 8 % 16 < 10 := Nat.not_le.mp (fun z => c46 ((nI_leI (a := 10) (b := c / 2 ^ 8 % 16) (by omega) (by omega)).mpr z))
          refine w_bipush (v := nI 48) d_PW_writeHex_49 (by decide) ?_
          refine w_iload_n d_PW_writeHex_51 rfl ?_
          refine w_iadd d_PW_writeHex_52 ?_
          refine w_topi (y := nI (48 + c / 2 ^ 8 % 16)) (nI_add _ _) ?_
          refine w_goto (tgt := 63) d_PW_writeHex_53 rfl ?_
          rw [show dg (c / 2 ^ 8 % 16) = 48 + c / 2 ^ 8 % 16 from if_pos c46] at J63; exact J63
      refine w_callV (as := [.int (nI (dg (c / 2 ^ 8 % 16)))]) (st := []) d_PW_writeHex_63 yM_PW_put l_PW_25 vM_PW_put kp5 rfl rfl rfl rfl (m_PW_put w5) (by decide) (by decide) (by decide) (by decide) (Nat.le_of_ble_eq_true rfl) ?_
      rintro _ h6 ⟨rfl, w6, o6⟩
      refine w_eq (st' := []) rfl ?_
      have kp6 := w6.1
      refine w_iinc (v := nI 4) d_PW_writeHex_66 rfl (by decide) (by decide) ?_
      refine w_pl (pl' := [some (.ref p), some (.int (nI c)), some (.int (nI 4)), some (.int (nI (c / 2 ^ 8 % 16)))]) rfl ?_
      refine w_goto (tgt := 21) d_PW_writeHex_69 rfl ?_
      refine w_iload_n d_PW_writeHex_21 rfl ?_
      refine w_if_lt (tgt := 72) d_PW_writeHex_22 rfl (fun z => absurd z (by decide)) (fun _ => ?_)
      refine w_iload_n d_PW_writeHex_25 rfl ?_
      refine w_iload_n d_PW_writeHex_26 rfl ?_
      refine w_ishr d_PW_writeHex_27 ?_
      refine w_topi (y := nI (c / 2 ^ 4)) (pk_shrN (by omega) _ 4 (by decide)) ?_
      refine w_if_ne (tgt := 35) d_PW_writeHex_28 rfl (fun _ => ?_) (fun z => absurd z (nI_ne0 (by omega) (by omega)))
      refine w_iload_n d_PW_writeHex_35 rfl ?_
      refine w_iload_n d_PW_writeHex_36 rfl ?_
      refine w_ishr d_PW_writeHex_37 ?_
      refine w_topi (y := nI (c / 2 ^ 4)) (pk_shrN (by omega) _ 4 (by decide)) ?_
      refine w_bipush (v := nI 15) d_PW_writeHex_38 (by decide) ?_
      refine w_iand d_PW_writeHex_40 ?_
      refine w_topi (y := nI (c / 2 ^ 4 % 16)) (pk_andN (m := nI 15) (by omega) 4 (by decide)) ?_
      refine w_istore_n d_PW_writeHex_41 (by decide) ?_
      refine w_pl (pl' := [some (.ref p), some (.int (nI c)), some (.int (nI 4)), some (.int (nI (c / 2 ^ 4 % 16)))]) rfl ?_
      refine w_aload_n d_PW_writeHex_42 rfl rfl ?_
      refine w_iload_n d_PW_writeHex_43 rfl ?_
      refine w_bipush (v := nI 10) d_PW_writeHex_44 (by decide) ?_
      suffices J63 : WP X M_PW_writeHex (wR 2 0 0) 0 EN 0 0 63 [some (.ref p), some (.int (nI c)), some (.int (nI 4)), some (.int (nI (c / 2 ^ 4 % 16)))] [.int (nI (dg (c / 2 ^ 4 % 16))), .ref p] h6 by
        refine w_icmp_ge (tgt := 56) d_PW_writeHex_46 rfl (fun c46 => ?_) (fun c46 => ?_)
        · have c46 := (nI_leI (a := 10) (b := c / 2 ^ 4 % 16) (by omega) (by omega)).mp c46
          refine w_bipush (v := nI 97) d_PW_writeHex_56 (by decide) ?_
          refine w_iload_n d_PW_writeHex_58 rfl ?_
          refine w_iadd d_PW_writeHex_59 ?_
          refine w_topi (y := nI (97 + c / 2 ^ 4 % 16)) (nI_add _ _) ?_
          refine w_bipush (v := nI 10) d_PW_writeHex_60 (by decide) ?_
          refine w_isub d_PW_writeHex_62 ?_
          refine w_topi (y := nI (97 + c / 2 ^ 4 % 16 - 10)) (pk_sub (by omega)) ?_
          rw [show dg (c / 2 ^ 4 % 16) = 97 + c / 2 ^ 4 % 16 - 10 from if_neg (by omega)] at J63; exact J63
        · have c46 : c / 2 ^ 4 % 16 < 10 := Nat.not_le.mp (fun z => c46 ((nI_leI (a := 10) (b := c / 2 ^ 4 % 16) (by omega) (by omega)).mpr z))
          refine w_bipush (v := nI 48) d_PW_writeHex_49 (by decide) ?_
          refine w_iload_n d_PW_writeHex_51 rfl ?_
          refine w_iadd d_PW_writeHex_52 ?_
          refine w_topi (y := nI (48 + c / 2 ^ 4 % 16)) (nI_add _ _) ?_
          refine w_goto (tgt := 63) d_PW_writeHex_53 rfl ?_
          rw [show dg (c / 2 ^ 4 % 16) = 48 + c / 2 ^ 4 % 16 from if_pos c46] at J63; exact J63
      refine w_callV (as := [.int (nI (dg (c / 2 ^ 4 % 16)))]) (st := []) d_PW_writeHex_63 yM_PW_put l_PW_25 vM_PW_put kp6 rfl rfl rfl rfl (m_PW_put w6) (by decide) (by decide) (by decide) (by decide) (Nat.le_of_ble_eq_true rfl) ?_
      rintro _ h7 ⟨rfl, w7, o7⟩
      refine w_eq (st' := []) rfl ?_
      have kp7 := w7.1
      refine w_iinc (v := nI 0) d_PW_writeHex_66 rfl (by decide) (by decide) ?_
      refine w_pl (pl' := [some (.ref p), some (.int (nI c)), some (.int (nI 0)), some (.int (nI (c / 2 ^ 4 % 16)))]) rfl ?_
      refine w_goto (tgt := 21) d_PW_writeHex_69 rfl ?_
      refine w_iload_n d_PW_writeHex_21 rfl ?_
      refine w_if_lt (tgt := 72) d_PW_writeHex_22 rfl (fun z => absurd z (by decide)) (fun _ => ?_)
      refine w_iload_n d_PW_writeHex_25 rfl ?_
      refine w_iload_n d_PW_writeHex_26 rfl ?_
      refine w_ishr d_PW_writeHex_27 ?_
      refine w_topi (y := nI (c / 2 ^ 0)) (pk_shrN (by omega) _ 0 (by decide)) ?_
      refine w_if_ne (tgt := 35) d_PW_writeHex_28 rfl (fun _ => ?_) (fun z => absurd z (nI_ne0 (by omega) (by omega)))
      refine w_iload_n d_PW_writeHex_35 rfl ?_
      refine w_iload_n d_PW_writeHex_36 rfl ?_
      refine w_ishr d_PW_writeHex_37 ?_
      refine w_topi (y := nI (c / 2 ^ 0)) (pk_shrN (by omega) _ 0 (by decide)) ?_
      refine w_bipush (v := nI 15) d_PW_writeHex_38 (by decide) ?_
      refine w_iand d_PW_writeHex_40 ?_
      refine w_topi (y := nI (c / 2 ^ 0 % 16)) (pk_andN (m := nI 15) (by omega) 4 (by decide)) ?_
      refine w_istore_n d_PW_writeHex_41 (by decide) ?_
      refine w_pl (pl' := [some (.ref p), some (.int (nI c)), some (.int (nI 0)), some (.int (nI (c / 2 ^ 0 % 16)))]) rfl ?_
      refine w_aload_n d_PW_writeHex_42 rfl rfl ?_
      refine w_iload_n d_PW_writeHex_43 rfl ?_
      refine w_bipush (v := nI 10) d_PW_writeHex_44 (by decide) ?_
      suffices J63 : WP X M_PW_writeHex (wR 2 0 0) 0 EN 0 0 63 [some (.ref p), some (.int (nI c)), some (.int (nI 0)), some (.int (nI (c / 2 ^ 0 % 16)))] [.int (nI (dg (c / 2 ^ 0 % 16))), .ref p] h7 by
        refine w_icmp_ge (tgt := 56) d_PW_writeHex_46 rfl (fun c46 => ?_) (fun c46 => ?_)
        · have c46 := (nI_leI (a := 10) (b := c / 2 ^ 0 % 16) (by omega) (by omega)).mp c46
          refine w_bipush (v := nI 97) d_PW_writeHex_56 (by decide) ?_
          refine w_iload_n d_PW_writeHex_58 rfl ?_
          refine w_iadd d_PW_writeHex_59 ?_
          refine w_topi (y := nI (97 + c / 2 ^ 0 % 16)) (nI_add _ _) ?_
          refine w_bipush (v := nI 10) d_PW_writeHex_60 (by decide) ?_
          refine w_isub d_PW_writeHex_62 ?_
          refine w_topi (y := nI (97 + c / 2 ^ 0 % 16 - 10)) (pk_sub (by omega)) ?_
          rw [show dg (c / 2 ^ 0 % 16) = 97 + c / 2 ^ 0 % 16 - 10 from if_neg (by omega)] at J63; exact J63
        · have c46 : c / 2 ^ 0 % 16 < 10 := Nat.not_le.mp (fun z => c46 ((nI_leI (a := 10) (b := c / 2 ^ 0 % 16) (by omega) (by omega)).mpr z))
          refine w_bipush (v := nI 48) d_PW_writeHex_49 (by decide) ?_
          refine w_iload_n d_PW_writeHex_51 rfl ?_
          refine w_iadd d_PW_writeHex_52 ?_
          refine w_topi (y := nI (48 + c / 2 ^ 0 % 16)) (nI_add _ _) ?_
          refine w_goto (tgt := 63) d_PW_writeHex_53 rfl ?_
          rw [show dg (c / 2 ^ 0 % 16) = 48 + c / 2 ^ 0 % 16 from if_pos c46] at J63; exact J63
      refine w_callV (as := [.int (nI (dg (c / 2 ^ 0 % 16)))]) (st := []) d_PW_writeHex_63 yM_PW_put l_PW_25 vM_PW_put kp7 rfl rfl rfl rfl (m_PW_put w7) (by decide) (by decide) (by decide) (by decide) (Nat.le_of_ble_eq_true rfl) ?_
      rintro _ h8 ⟨rfl, w8, o8⟩
      refine w_eq (st' := []) rfl ?_
      have kp8 := w8.1
      refine w_iinc (v := (-4)) d_PW_writeHex_66 rfl (by decide) (by decide) ?_
      refine w_pl (pl' := [some (.ref p), some (.int (nI c)), some (.int ((-4))), some (.int (nI (c / 2 ^ 0 % 16)))]) rfl ?_
      refine w_goto (tgt := 21) d_PW_writeHex_69 rfl ?_
      refine w_iload_n d_PW_writeHex_21 rfl ?_
      refine w_if_lt (tgt := 72) d_PW_writeHex_22 rfl (fun _ => ?_) (fun z => absurd (by decide) z)
      refine w_aload_n d_PW_writeHex_72 rfl rfl ?_
      refine w_bipush (v := nI 125) d_PW_writeHex_73 (by decide) ?_
      refine w_callV (as := [.int (nI 125)]) (st := []) d_PW_writeHex_75 yM_PW_put l_PW_25 vM_PW_put kp8 rfl rfl rfl rfl (m_PW_put w8) (by decide) (by decide) (by decide) (by decide) (Nat.le_of_ble_eq_true rfl) ?_
      rintro _ h9 ⟨rfl, w9, o9⟩
      refine w_eq (st' := []) rfl ?_
      have kp9 := w9.1
      rw [← hEN]
      refine w_vret d_PW_writeHex_78 rfl ?_
      have hxe : hx c = [dg (c / 2 ^ 16 % 16), dg (c / 2 ^ 12 % 16), dg (c / 2 ^ 8 % 16), dg (c / 2 ^ 4 % 16), dg (c / 2 ^ 0 % 16)] := by unfold hx; rw [if_neg (fun q => q z20), if_pos z16]
      refine ⟨rfl, ?_, ((((((((o1.tr o2).tr o3).tr o4).tr o5).tr o6).tr o7).tr o8).tr o9)⟩
      rw [hxe]
      have q := w9
      simp only [List.append_assoc, List.cons_append, List.nil_append] at q ⊢
      exact q
    · have z16 : c / 2 ^ 16 = 0 := by
        rcases Nat.eq_zero_or_pos (c / 2 ^ 16) with z | z
        · exact z
        · exact absurd c28 (nI_ne0 z (by omega))
      refine w_iload_n d_PW_writeHex_31 rfl ?_
      refine w_if_ne (tgt := 66) d_PW_writeHex_32 rfl (fun _ => ?_) (fun z => absurd z (by decide))
      refine w_iinc (v := nI 12) d_PW_writeHex_66 rfl (by decide) (by decide) ?_
      refine w_pl (pl' := [some (.ref p), some (.int (nI c)), some (.int (nI 12)), none]) rfl ?_
      refine w_goto (tgt := 21) d_PW_writeHex_69 rfl ?_
      refine w_iload_n d_PW_writeHex_21 rfl ?_
      refine w_if_lt (tgt := 72) d_PW_writeHex_22 rfl (fun z => absurd z (by decide)) (fun _ => ?_)
      refine w_iload_n d_PW_writeHex_25 rfl ?_
      refine w_iload_n d_PW_writeHex_26 rfl ?_
      refine w_ishr d_PW_writeHex_27 ?_
      refine w_topi (y := nI (c / 2 ^ 12)) (pk_shrN (by omega) _ 12 (by decide)) ?_
      refine w_if_ne (tgt := 35) d_PW_writeHex_28 rfl (fun c28 => ?_) (fun c28 => ?_)
      · have z12 : ¬ c / 2 ^ 12 = 0 := fun z => c28 (by rw [z]; decide)
        refine w_iload_n d_PW_writeHex_35 rfl ?_
        refine w_iload_n d_PW_writeHex_36 rfl ?_
        refine w_ishr d_PW_writeHex_37 ?_
        refine w_topi (y := nI (c / 2 ^ 12)) (pk_shrN (by omega) _ 12 (by decide)) ?_
        refine w_bipush (v := nI 15) d_PW_writeHex_38 (by decide) ?_
        refine w_iand d_PW_writeHex_40 ?_
        refine w_topi (y := nI (c / 2 ^ 12 % 16)) (pk_andN (m := nI 15) (by omega) 4 (by decide)) ?_
        refine w_istore_n d_PW_writeHex_41 (by decide) ?_
        refine w_pl (pl' := [some (.ref p), some (.int (nI c)), some (.int (nI 12)), some (.int (nI (c / 2 ^ 12 % 16)))]) rfl ?_
        refine w_aload_n d_PW_writeHex_42 rfl rfl ?_
        refine w_iload_n d_PW_writeHex_43 rfl ?_
        refine w_bipush (v := nI 10) d_PW_writeHex_44 (by decide) ?_
        suffices J63 : WP X M_PW_writeHex (wR 2 0 0) 0 EN 0 0 63 [some (.ref p), some (.int (nI c)), some (.int (nI 12)), some (.int (nI (c / 2 ^ 12 % 16)))] [.int (nI (dg (c / 2 ^ 12 % 16))), .ref p] h3 by
          refine w_icmp_ge (tgt := 56) d_PW_writeHex_46 rfl (fun c46 => ?_) (fun c46 => ?_)
          · have c46 := (nI_leI (a := 10) (b := c / 2 ^ 12 % 16) (by omega) (by omega)).mp c46
            refine w_bipush (v := nI 97) d_PW_writeHex_56 (by decide) ?_
            refine w_iload_n d_PW_writeHex_58 rfl ?_
            refine w_iadd d_PW_writeHex_59 ?_
            refine w_topi (y := nI (97 + c / 2 ^ 12 % 16)) (nI_add _ _) ?_
            refine w_bipush (v := nI 10) d_PW_writeHex_60 (by decide) ?_
            refine w_isub d_PW_writeHex_62 ?_
            refine w_topi (y := nI (97 + c / 2 ^ 12 % 16 - 10)) (pk_sub (by omega)) ?_
            rw [show dg (c / 2 ^ 12 % 16) = 97 + c / 2 ^ 12 % 16 - 10 from if_neg (by omega)] at J63; exact J63
          · have c46 : c / 2 ^ 12 % 16 < 10 := Nat.not_le.mp (fun z => c46 ((nI_leI (a := 10) (b := c / 2 ^ 12 % 16) (by omega) (by omega)).mpr z))
            refine w_bipush (v := nI 48) d_PW_writeHex_49 (by decide) ?_
            refine w_iload_n d_PW_writeHex_51 rfl ?_
            refine w_iadd d_PW_writeHex_52 ?_
            refine w_topi (y := nI (48 + c / 2 ^ 12 % 16)) (nI_add _ _) ?_
            refine w_goto (tgt := 63) d_PW_writeHex_53 rfl ?_
            rw [show dg (c / 2 ^ 12 % 16) = 48 + c / 2 ^ 12 % 16 from if_pos c46] at J63; exact J63
        refine w_callV (as := [.int (nI (dg (c / 2 ^ 12 % 16)))]) (st := []) d_PW_writeHex_63 yM_PW_put l_PW_25 vM_PW_put kp3 rfl rfl rfl rfl (m_PW_put w3) (by decide) (by decide) (by decide) (by decide) (Nat.le_of_ble_eq_true rfl) ?_
        rintro _ h4 ⟨rfl, w4, o4⟩
        refine w_eq (st' := []) rfl ?_
        have kp4 := w4.1
        refine w_iinc (v := nI 8) d_PW_writeHex_66 rfl (by decide) (by decide) ?_
        refine w_pl (pl' := [some (.ref p), some (.int (nI c)), some (.int (nI 8)), some (.int (nI (c / 2 ^ 12 % 16)))]) rfl ?_
        refine w_goto (tgt := 21) d_PW_writeHex_69 rfl ?_
        refine w_iload_n d_PW_writeHex_21 rfl ?_
        refine w_if_lt (tgt := 72) d_PW_writeHex_22 rfl (fun z => absurd z (by decide)) (fun _ => ?_)
        refine w_iload_n d_PW_writeHex_25 rfl ?_
        refine w_iload_n d_PW_writeHex_26 rfl ?_
        refine w_ishr d_PW_writeHex_27 ?_
        refine w_topi (y := nI (c / 2 ^ 8)) (pk_shrN (by omega) _ 8 (by decide)) ?_
        refine w_if_ne (tgt := 35) d_PW_writeHex_28 rfl (fun _ => ?_) (fun z => absurd z (nI_ne0 (by omega) (by omega)))
        refine w_iload_n d_PW_writeHex_35 rfl ?_
        refine w_iload_n d_PW_writeHex_36 rfl ?_
        refine w_ishr d_PW_writeHex_37 ?_
        refine w_topi (y := nI (c / 2 ^ 8)) (pk_shrN (by omega) _ 8 (by decide)) ?_
        refine w_bipush (v := nI 15) d_PW_writeHex_38 (by decide) ?_
        refine w_iand d_PW_writeHex_40 ?_
        refine w_topi (y := nI (c / 2 ^ 8 % 16)) (pk_andN (m := nI 15) (by omega) 4 (by decide)) ?_
        refine w_istore_n d_PW_writeHex_41 (by decide) ?_
        refine w_pl (pl' := [some (.ref p), some (.int (nI c)), some (.int (nI 8)), some (.int (nI (c / 2 ^ 8 % 16)))]) rfl ?_
        refine w_aload_n d_PW_writeHex_42 rfl rfl ?_
        refine w_iload_n d_PW_writeHex_43 rfl ?_
        refine w_bipush (v := nI 10) d_PW_writeHex_44 (by decide) ?_
        suffices J63 : WP X M_PW_writeHex (wR 2 0 0) 0 EN 0 0 63 [some (.ref p), some (.int (nI c)), some (.int (nI 8)), some (.int (nI (c / 2 ^ 8 % 16)))] [.int (nI (dg (c / 2 ^ 8 % 16))), .ref p] h4 by
          refine w_icmp_ge (tgt := 56) d_PW_writeHex_46 rfl (fun c46 => ?_) (fun c46 => ?_)
          · have c46 := (nI_leI (a := 10) (b := c / 2 ^ 8 % 16) (by omega) (by omega)).mp c46
            refine w_bipush (v := nI 97) d_PW_writeHex_56 (by decide) ?_
            refine w_iload_n d_PW_writeHex_58 rfl ?_
            refine w_iadd d_PW_writeHex_59 ?_
            refine w_topi (y := nI (97 + c / 2 ^ 8 % 16)) (nI_add _ _) ?_
            refine w_bipush (v := nI 10) d_PW_writeHex_60 (by decide) ?_
            refine w_isub d_PW_writeHex_62 ?_
            refine w_topi (y := nI (97 + c / 2 ^ 8 % 16 - 10)) (pk_sub (by omega)) ?_
            rw [show dg (c / 2 ^ 8 % 16) = 97 + c / 2 ^ 8 % 16 - 10 from if_neg (by omega)] at J63; exact J63
          · have c46 : c / 2 ^ 8 % 16 < 10 := Nat.not_le.mp (fun z => c46 ((nI_leI (a := 10) (b := c / 2 ^ 8 % 16) (by omega) (by omega)).mpr z))
            refine w_bipush (v := nI 48) d_PW_writeHex_49 (by decide) ?_
            refine w_iload_n d_PW_writeHex_51 rfl ?_
            refine w_iadd d_PW_writeHex_52 ?_
            refine w_topi (y := nI (48 + c / 2 ^ 8 % 16)) (nI_add _ _) ?_
            refine w_goto (tgt := 63) d_PW_writeHex_53 rfl ?_
            rw [show dg (c / 2 ^ 8 % 16) = 48 + c / 2 ^ 8 % 16 from if_pos c46] at J63; exact J63
        refine w_callV (as := [.int (nI (dg (c / 2 ^ 8 % 16)))]) (st := []) d_PW_writeHex_63 yM_PW_put l_PW_25 vM_PW_put kp4 rfl rfl rfl rfl (m_PW_put w4) (by decide) (by decide) (by decide) (by decide) (Nat.le_of_ble_eq_true rfl) ?_
        rintro _ h5 ⟨rfl, w5, o5⟩
        refine w_eq (st' := []) rfl ?_
        have kp5 := w5.1
        refine w_iinc (v := nI 4) d_PW_writeHex_66 rfl (by decide) (by decide) ?_
        refine w_pl (pl' := [some (.ref p), some (.int (nI c)), some (.int (nI 4)), some (.int (nI (c / 2 ^ 8 % 16)))]) rfl ?_
        refine w_goto (tgt := 21) d_PW_writeHex_69 rfl ?_
        refine w_iload_n d_PW_writeHex_21 rfl ?_
        refine w_if_lt (tgt := 72) d_PW_writeHex_22 rfl (fun z => absurd z (by decide)) (fun _ => ?_)
        refine w_iload_n d_PW_writeHex_25 rfl ?_
        refine w_iload_n d_PW_writeHex_26 rfl ?_
        refine w_ishr d_PW_writeHex_27 ?_
        refine w_topi (y := nI (c / 2 ^ 4)) (pk_shrN (by omega) _ 4 (by decide)) ?_
        refine w_if_ne (tgt := 35) d_PW_writeHex_28 rfl (fun _ => ?_) (fun z => absurd z (nI_ne0 (by omega) (by omega)))
        refine w_iload_n d_PW_writeHex_35 rfl ?_
        refine w_iload_n d_PW_writeHex_36 rfl ?_
        refine w_ishr d_PW_writeHex_37 ?_
        refine w_topi (y := nI (c / 2 ^ 4)) (pk_shrN (by omega) _ 4 (by decide)) ?_
        refine w_bipush (v := nI 15) d_PW_writeHex_38 (by decide) ?_
        refine w_iand d_PW_writeHex_40 ?_
        refine w_topi (y := nI (c / 2 ^ 4 % 16)) (pk_andN (m := nI 15) (by omega) 4 (by decide)) ?_
        refine w_istore_n d_PW_writeHex_41 (by decide) ?_
        refine w_pl (pl' := [some (.ref p), some (.int (nI c)), some (.int (nI 4)), some (.int (nI (c / 2 ^ 4 % 16)))]) rfl ?_
        refine w_aload_n d_PW_writeHex_42 rfl rfl ?_
        refine w_iload_n d_PW_writeHex_43 rfl ?_
        refine w_bipush (v := nI 10) d_PW_writeHex_44 (by decide) ?_
        suffices J63 : WP X M_PW_writeHex (wR 2 0 0) 0 EN 0 0 63 [some (.ref p), some (.int (nI c)), some (.int (nI 4)), some (.int (nI (c / 2 ^ 4 % 16)))] [.int (nI (dg (c / 2 ^ 4 % 16))), .ref p] h5 by
          refine w_icmp_ge (tgt := 56) d_PW_writeHex_46 rfl (fun c46 => ?_) (fun c46 => ?_)
          · have c46 := (nI_leI (a := 10) (b := c / 2 ^ 4 % 16) (by omega) (by omega)).mp c46
            refine w_bipush (v := nI 97) d_PW_writeHex_56 (by decide) ?_
            refine w_iload_n d_PW_writeHex_58 rfl ?_
            refine w_iadd d_PW_writeHex_59 ?_
            refine w_topi (y := nI (97 + c / 2 ^ 4 % 16)) (nI_add _ _) ?_
            refine w_bipush (v := nI 10) d_PW_writeHex_60 (by decide) ?_
            refine w_isub d_PW_writeHex_62 ?_
            refine w_topi (y := nI (97 + c / 2 ^ 4 % 16 - 10)) (pk_sub (by omega)) ?_
            rw [show dg (c / 2 ^ 4 % 16) = 97 + c / 2 ^ 4 % 16 - 10 from if_neg (by omega)] at J63; exact J63
          · have c46 : c / 2 ^ 4 % 16 < 10 := Nat.not_le.mp (fun z => c46 ((nI_leI (a := 10) (b := c / 2 ^ 4 % 16) (by omega) (by omega)).mpr z))
            refine w_bipush (v := nI 48) d_PW_writeHex_49 (by decide) ?_
            refine w_iload_n d_PW_writeHex_51 rfl ?_
            refine w_iadd d_PW_writeHex_52 ?_
            refine w_topi (y := nI (48 + c / 2 ^ 4 % 16)) (nI_add _ _) ?_
            refine w_goto (tgt := 63) d_PW_writeHex_53 rfl ?_
            rw [show dg (c / 2 ^ 4 % 16) = 48 + c / 2 ^ 4 % 16 from if_pos c46] at J63; exact J63
        refine w_callV (as := [.int (nI (dg (c / 2 ^ 4 % 16)))]) (st := []) d_PW_writeHex_63 yM_PW_put l_PW_25 vM_PW_put kp5 rfl rfl rfl rfl (m_PW_put w5) (by decide) (by decide) (by decide) (by decide) (Nat.le_of_ble_eq_true rfl) ?_
        rintro _ h6 ⟨rfl, w6, o6⟩
        refine w_eq (st' := []) rfl ?_
        have kp6 := w6.1
        refine w_iinc (v := nI 0) d_PW_writeHex_66 rfl (by decide) (by decide) ?_
        refine w_pl (pl' := [some (.ref p), some (.int (nI c)), some (.int (nI 0)), some (.int (nI (c / 2 ^ 4 % 16)))]) rfl ?_
        refine w_goto (tgt := 21) d_PW_writeHex_69 rfl ?_
        refine w_iload_n d_PW_writeHex_21 rfl ?_
        refine w_if_lt (tgt := 72) d_PW_writeHex_22 rfl (fun z => absurd z (by decide)) (fun _ => ?_)
        refine w_iload_n d_PW_writeHex_25 rfl ?_
        refine w_iload_n d_PW_writeHex_26 rfl ?_
        refine w_ishr d_PW_writeHex_27 ?_
        refine w_topi (y := nI (c / 2 ^ 0)) (pk_shrN (by omega) _ 0 (by decide)) ?_
        refine w_if_ne (tgt := 35) d_PW_writeHex_28 rfl (fun _ => ?_) (fun z => absurd z (nI_ne0 (by omega) (by omega)))
        refine w_iload_n d_PW_writeHex_35 rfl ?_
        refine w_iload_n d_PW_writeHex_36 rfl ?_
        refine w_ishr d_PW_writeHex_37 ?_
        refine w_topi (y := nI (c / 2 ^ 0)) (pk_shrN (by omega) _ 0 (by decide)) ?_
        refine w_bipush (v := nI 15) d_PW_writeHex_38 (by decide) ?_
        refine w_iand d_PW_writeHex_40 ?_
        refine w_topi (y := nI (c / 2 ^ 0 % 16)) (pk_andN (m := nI 15) (by omega) 4 (by decide)) ?_
        refine w_istore_n d_PW_writeHex_41 (by decide) ?_
        refine w_pl (pl' := [some (.ref p), some (.int (nI c)), some (.int (nI 0)), some (.int (nI (c / 2 ^ 0 % 16)))]) rfl ?_
        refine w_aload_n d_PW_writeHex_42 rfl rfl ?_
        refine w_iload_n d_PW_writeHex_43 rfl ?_
        refine w_bipush (v := nI 10) d_PW_writeHex_44 (by decide) ?_
        suffices J63 : WP X M_PW_writeHex (wR 2 0 0) 0 EN 0 0 63 [some (.ref p), some (.int (nI c)), some (.int (nI 0)), some (.int (nI (c / 2 ^ 0 % 16)))] [.int (nI (dg (c / 2 ^ 0 % 16))), .ref p] h6 by
          refine w_icmp_ge (tgt := 56) d_PW_writeHex_46 rfl (fun c46 => ?_) (fun c46 => ?_)
          · have c46 := (nI_leI (a := 10) (b := c / 2 ^ 0 % 16) (by omega) (by omega)).mp c46
            refine w_bipush (v := nI 97) d_PW_writeHex_56 (by decide) ?_
            refine w_iload_n d_PW_writeHex_58 rfl ?_
            refine w_iadd d_PW_writeHex_59 ?_
            refine w_topi (y := nI (97 + c / 2 ^ 0 % 16)) (nI_add _ _) ?_
            refine w_bipush (v := nI 10) d_PW_writeHex_60 (by decide) ?_
            refine w_isub d_PW_writeHex_62 ?_
            refine w_topi (y := nI (97 + c / 2 ^ 0 % 16 - 10)) (pk_sub (by omega)) ?_
            rw [show dg (c / 2 ^ 0 % 16) = 97 + c / 2 ^ 0 % 16 - 10 from if_neg (by omega)] at J63; exact J63
          · have c46 : c / 2 ^ 0 % 16 < 10 := Nat.not_le.mp (fun z => c46 ((nI_leI (a := 10) (b := c / 2 ^ 0 % 16) (by omega) (by omega)).mpr z))
            refine w_bipush (v := nI 48) d_PW_writeHex_49 (by decide) ?_
            refine w_iload_n d_PW_writeHex_51 rfl ?_
            refine w_iadd d_PW_writeHex_52 ?_
            refine w_topi (y := nI (48 + c / 2 ^ 0 % 16)) (nI_add _ _) ?_
            refine w_goto (tgt := 63) d_PW_writeHex_53 rfl ?_
            rw [show dg (c / 2 ^ 0 % 16) = 48 + c / 2 ^ 0 % 16 from if_pos c46] at J63; exact J63
        refine w_callV (as := [.int (nI (dg (c / 2 ^ 0 % 16)))]) (st := []) d_PW_writeHex_63 yM_PW_put l_PW_25 vM_PW_put kp6 rfl rfl rfl rfl (m_PW_put w6) (by decide) (by decide) (by decide) (by decide) (Nat.le_of_ble_eq_true rfl) ?_
        rintro _ h7 ⟨rfl, w7, o7⟩
        refine w_eq (st' := []) rfl ?_
        have kp7 := w7.1
        refine w_iinc (v := (-4)) d_PW_writeHex_66 rfl (by decide) (by decide) ?_
        refine w_pl (pl' := [some (.ref p), some (.int (nI c)), some (.int ((-4))), some (.int (nI (c / 2 ^ 0 % 16)))]) rfl ?_
        refine w_goto (tgt := 21) d_PW_writeHex_69 rfl ?_
        refine w_iload_n d_PW_writeHex_21 rfl ?_
        refine w_if_lt (tgt := 72) d_PW_writeHex_22 rfl (fun _ => ?_) (fun z => absurd (by decide) z)
        refine w_aload_n d_PW_writeHex_72 rfl rfl ?_
        refine w_bipush (v := nI 125) d_PW_writeHex_73 (by decide) ?_
        refine w_callV (as := [.int (nI 125)]) (st := []) d_PW_writeHex_75 yM_PW_put l_PW_25 vM_PW_put kp7 rfl rfl rfl rfl (m_PW_put w7) (by decide) (by decide) (by decide) (by decide) (Nat.le_of_ble_eq_true rfl) ?_
        rintro _ h8 ⟨rfl, w8, o8⟩
        refine w_eq (st' := []) rfl ?_
        have kp8 := w8.1
        rw [← hEN]
        refine w_vret d_PW_writeHex_78 rfl ?_
        have hxe : hx c = [dg (c / 2 ^ 12 % 16), dg (c / 2 ^ 8 % 16), dg (c / 2 ^ 4 % 16), dg (c / 2 ^ 0 % 16)] := by unfold hx; rw [if_neg (fun q => q z20), if_neg (fun q => q z16), if_pos z12]
        refine ⟨rfl, ?_, (((((((o1.tr o2).tr o3).tr o4).tr o5).tr o6).tr o7).tr o8)⟩
        rw [hxe]
        have q := w8
        simp only [List.append_assoc, List.cons_append, List.nil_append] at q ⊢
        exact q
      · have z12 : c / 2 ^ 12 = 0 := by
          rcases Nat.eq_zero_or_pos (c / 2 ^ 12) with z | z
          · exact z
          · exact absurd c28 (nI_ne0 z (by omega))
        refine w_iload_n d_PW_writeHex_31 rfl ?_
        refine w_if_ne (tgt := 66) d_PW_writeHex_32 rfl (fun _ => ?_) (fun z => absurd z (by decide))
        refine w_iinc (v := nI 8) d_PW_writeHex_66 rfl (by decide) (by decide) ?_
        refine w_pl (pl' := [some (.ref p), some (.int (nI c)), some (.int (nI 8)), none]) rfl ?_
        refine w_goto (tgt := 21) d_PW_writeHex_69 rfl ?_
        refine w_iload_n d_PW_writeHex_21 rfl ?_
        refine w_if_lt (tgt := 72) d_PW_writeHex_22 rfl (fun z => absurd z (by decide)) (fun _ => ?_)
        refine w_iload_n d_PW_writeHex_25 rfl ?_
        refine w_iload_n d_PW_writeHex_26 rfl ?_
        refine w_ishr d_PW_writeHex_27 ?_
        refine w_topi (y := nI (c / 2 ^ 8)) (pk_shrN (by omega) _ 8 (by decide)) ?_
        refine w_if_ne (tgt := 35) d_PW_writeHex_28 rfl (fun c28 => ?_) (fun c28 => ?_)
        · have z8 : ¬ c / 2 ^ 8 = 0 := fun z => c28 (by rw [z]; decide)
          refine w_iload_n d_PW_writeHex_35 rfl ?_
          refine w_iload_n d_PW_writeHex_36 rfl ?_
          refine w_ishr d_PW_writeHex_37 ?_
          refine w_topi (y := nI (c / 2 ^ 8)) (pk_shrN (by omega) _ 8 (by decide)) ?_
          refine w_bipush (v := nI 15) d_PW_writeHex_38 (by decide) ?_
          refine w_iand d_PW_writeHex_40 ?_
          refine w_topi (y := nI (c / 2 ^ 8 % 16)) (pk_andN (m := nI 15) (by omega) 4 (by decide)) ?_
          refine w_istore_n d_PW_writeHex_41 (by decide) ?_
          refine w_pl (pl' := [some (.ref p), some (.int (nI c)), some (.int (nI 8)), some (.int (nI (c / 2 ^ 8 % 16)))]) rfl ?_
          refine w_aload_n d_PW_writeHex_42 rfl rfl ?_
          refine w_iload_n d_PW_writeHex_43 rfl ?_
          refine w_bipush (v := nI 10) d_PW_writeHex_44 (by decide) ?_
          suffices J63 : WP X M_PW_writeHex (wR 2 0 0) 0 EN 0 0 63 [some (.ref p), some (.int (nI c)), some (.int (nI 8)), some (.int (nI (c / 2 ^ 8 % 16)))] [.int (nI (dg (c / 2 ^ 8 % 16))), .ref p] h3 by
            refine w_icmp_ge (tgt := 56) d_PW_writeHex_46 rfl (fun c46 => ?_) (fun c46 => ?_)
            · have c46 := (nI_leI (a := 10) (b := c / 2 ^ 8 % 16) (by omega) (by omega)).mp c46
              refine w_bipush (v := nI 97) d_PW_writeHex_56 (by decide) ?_
              refine w_iload_n d_PW_writeHex_58 rfl ?_
              refine w_iadd d_PW_writeHex_59 ?_
              refine w_topi (y := nI (97 + c / 2 ^ 8 % 16)) (nI_add _ _) ?_
              refine w_bipush (v := nI 10) d_PW_writeHex_60 (by decide) ?_
              refine w_isub d_PW_writeHex_62 ?_
              refine w_topi (y := nI (97 + c / 2 ^ 8 % 16 - 10)) (pk_sub (by omega)) ?_
              rw [show dg (c / 2 ^ 8 % 16) = 97 + c / 2 ^ 8 % 16 - 10 from if_neg (by omega)] at J63; exact J63
            · have c46 : c / 2 ^ 8 % 16 < 10 := Nat.not_le.mp (fun z => c46 ((nI_leI (a := 10) (b := c / 2 ^ 8 % 16) (by omega) (by omega)).mpr z))
              refine w_bipush (v := nI 48) d_PW_writeHex_49 (by decide) ?_
              refine w_iload_n d_PW_writeHex_51 rfl ?_
              refine w_iadd d_PW_writeHex_52 ?_
              refine w_topi (y := nI (48 + c / 2 ^ 8 % 16)) (nI_add _ _) ?_
              refine w_goto (tgt := 63) d_PW_writeHex_53 rfl ?_
              rw [show dg (c / 2 ^ 8 % 16) = 48 + c / 2 ^ 8 % 16 from if_pos c46] at J63; exact J63
          refine w_callV (as := [.int (nI (dg (c / 2 ^ 8 % 16)))]) (st := []) d_PW_writeHex_63 yM_PW_put l_PW_25 vM_PW_put kp3 rfl rfl rfl rfl (m_PW_put w3) (by decide) (by decide) (by decide) (by decide) (Nat.le_of_ble_eq_true rfl) ?_
          rintro _ h4 ⟨rfl, w4, o4⟩
          refine w_eq (st' := []) rfl ?_
          have kp4 := w4.1
          refine w_iinc (v := nI 4) d_PW_writeHex_66 rfl (by decide) (by decide) ?_
          refine w_pl (pl' := [some (.ref p), some (.int (nI c)), some (.int (nI 4)), some (.int (nI (c / 2 ^ 8 % 16)))]) rfl ?_
          refine w_goto (tgt := 21) d_PW_writeHex_69 rfl ?_
          refine w_iload_n d_PW_writeHex_21 rfl ?_
          refine w_if_lt (tgt := 72) d_PW_writeHex_22 rfl (fun z => absurd z (by decide)) (fun _ => ?_)
          refine w_iload_n d_PW_writeHex_25 rfl ?_
          refine w_iload_n d_PW_writeHex_26 rfl ?_
          refine w_ishr d_PW_writeHex_27 ?_
          refine w_topi (y := nI (c / 2 ^ 4)) (pk_shrN (by omega) _ 4 (by decide)) ?_
          refine w_if_ne (tgt := 35) d_PW_writeHex_28 rfl (fun _ => ?_) (fun z => absurd z (nI_ne0 (by omega) (by omega)))
          refine w_iload_n d_PW_writeHex_35 rfl ?_
          refine w_iload_n d_PW_writeHex_36 rfl ?_
          refine w_ishr d_PW_writeHex_37 ?_
          refine w_topi (y := nI (c / 2 ^ 4)) (pk_shrN (by omega) _ 4 (by decide)) ?_
          refine w_bipush (v := nI 15) d_PW_writeHex_38 (by decide) ?_
          refine w_iand d_PW_writeHex_40 ?_
          refine w_topi (y := nI (c / 2 ^ 4 % 16)) (pk_andN (m := nI 15) (by omega) 4 (by decide)) ?_
          refine w_istore_n d_PW_writeHex_41 (by decide) ?_
          refine w_pl (pl' := [some (.ref p), some (.int (nI c)), some (.int (nI 4)), some (.int (nI (c / 2 ^ 4 % 16)))]) rfl ?_
          refine w_aload_n d_PW_writeHex_42 rfl rfl ?_
          refine w_iload_n d_PW_writeHex_43 rfl ?_
          refine w_bipush (v := nI 10) d_PW_writeHex_44 (by decide) ?_
          suffices J63 : WP X M_PW_writeHex (wR 2 0 0) 0 EN 0 0 63 [some (.ref p), some (.int (nI c)), some (.int (nI 4)), some (.int (nI (c / 2 ^ 4 % 16)))] [.int (nI (dg (c / 2 ^ 4 % 16))), .ref p] h4 by
            refine w_icmp_ge (tgt := 56) d_PW_writeHex_46 rfl (fun c46 => ?_) (fun c46 => ?_)
            · have c46 := (nI_leI (a := 10) (b := c / 2 ^ 4 % 16) (by omega) (by omega)).mp c46
              refine w_bipush (v := nI 97) d_PW_writeHex_56 (by decide) ?_
              refine w_iload_n d_PW_writeHex_58 rfl ?_
              refine w_iadd d_PW_writeHex_59 ?_
              refine w_topi (y := nI (97 + c / 2 ^ 4 % 16)) (nI_add _ _) ?_
              refine w_bipush (v := nI 10) d_PW_writeHex_60 (by decide) ?_
              refine w_isub d_PW_writeHex_62 ?_
              refine w_topi (y := nI (97 + c / 2 ^ 4 % 16 - 10)) (pk_sub (by omega)) ?_
              rw [show dg (c / 2 ^ 4 % 16) = 97 + c / 2 ^ 4 % 16 - 10 from if_neg (by omega)] at J63; exact J63
            · have c46 : c / 2 ^ 4 % 16 < 10 := Nat.not_le.mp (fun z => c46 ((nI_leI (a := 10) (b := c / 2 ^ 4 % 16) (by omega) (by omega)).mpr z))
              refine w_bipush (v := nI 48) d_PW_writeHex_49 (by decide) ?_
              refine w_iload_n d_PW_writeHex_51 rfl ?_
              refine w_iadd d_PW_writeHex_52 ?_
              refine w_topi (y := nI (48 + c / 2 ^ 4 % 16)) (nI_add _ _) ?_
              refine w_goto (tgt := 63) d_PW_writeHex_53 rfl ?_
              rw [show dg (c / 2 ^ 4 % 16) = 48 + c / 2 ^ 4 % 16 from if_pos c46] at J63; exact J63
          refine w_callV (as := [.int (nI (dg (c / 2 ^ 4 % 16)))]) (st := []) d_PW_writeHex_63 yM_PW_put l_PW_25 vM_PW_put kp4 rfl rfl rfl rfl (m_PW_put w4) (by decide) (by decide) (by decide) (by decide) (Nat.le_of_ble_eq_true rfl) ?_
          rintro _ h5 ⟨rfl, w5, o5⟩
          refine w_eq (st' := []) rfl ?_
          have kp5 := w5.1
          refine w_iinc (v := nI 0) d_PW_writeHex_66 rfl (by decide) (by decide) ?_
          refine w_pl (pl' := [some (.ref p), some (.int (nI c)), some (.int (nI 0)), some (.int (nI (c / 2 ^ 4 % 16)))]) rfl ?_
          refine w_goto (tgt := 21) d_PW_writeHex_69 rfl ?_
          refine w_iload_n d_PW_writeHex_21 rfl ?_
          refine w_if_lt (tgt := 72) d_PW_writeHex_22 rfl (fun z => absurd z (by decide)) (fun _ => ?_)
          refine w_iload_n d_PW_writeHex_25 rfl ?_
          refine w_iload_n d_PW_writeHex_26 rfl ?_
          refine w_ishr d_PW_writeHex_27 ?_
          refine w_topi (y := nI (c / 2 ^ 0)) (pk_shrN (by omega) _ 0 (by decide)) ?_
          refine w_if_ne (tgt := 35) d_PW_writeHex_28 rfl (fun _ => ?_) (fun z => absurd z (nI_ne0 (by omega) (by omega)))
          refine w_iload_n d_PW_writeHex_35 rfl ?_
          refine w_iload_n d_PW_writeHex_36 rfl ?_
          refine w_ishr d_PW_writeHex_37 ?_
          refine w_topi (y := nI (c / 2 ^ 0)) (pk_shrN (by omega) _ 0 (by decide)) ?_
          refine w_bipush (v := nI 15) d_PW_writeHex_38 (by decide) ?_
          refine w_iand d_PW_writeHex_40 ?_
          refine w_topi (y := nI (c / 2 ^ 0 % 16)) (pk_andN (m := nI 15) (by omega) 4 (by decide)) ?_
          refine w_istore_n d_PW_writeHex_41 (by decide) ?_
          refine w_pl (pl' := [some (.ref p), some (.int (nI c)), some (.int (nI 0)), some (.int (nI (c / 2 ^ 0 % 16)))]) rfl ?_
          refine w_aload_n d_PW_writeHex_42 rfl rfl ?_
          refine w_iload_n d_PW_writeHex_43 rfl ?_
          refine w_bipush (v := nI 10) d_PW_writeHex_44 (by decide) ?_
          suffices J63 : WP X M_PW_writeHex (wR 2 0 0) 0 EN 0 0 63 [some (.ref p), some (.int (nI c)), some (.int (nI 0)), some (.int (nI (c / 2 ^ 0 % 16)))] [.int (nI (dg (c / 2 ^ 0 % 16))), .ref p] h5 by
            refine w_icmp_ge (tgt := 56) d_PW_writeHex_46 rfl (fun c46 => ?_) (fun c46 => ?_)
            · have c46 := (nI_leI (a := 10) (b := c / 2 ^ 0 % 16) (by omega) (by omega)).mp c46
              refine w_bipush (v := nI 97) d_PW_writeHex_56 (by decide) ?_
              refine w_iload_n d_PW_writeHex_58 rfl ?_
              refine w_iadd d_PW_writeHex_59 ?_
              refine w_topi (y := nI (97 + c / 2 ^ 0 % 16)) (nI_add _ _) ?_
              refine w_bipush (v := nI 10) d_PW_writeHex_60 (by decide) ?_
              refine w_isub d_PW_writeHex_62 ?_
              refine w_topi (y := nI (97 + c / 2 ^ 0 % 16 - 10)) (pk_sub (by omega)) ?_
              rw [show dg (c / 2 ^ 0 % 16) = 97 + c / 2 ^ 0 % 16 - 10 from if_neg (by omega)] at J63; exact J63
            · have c46 : c / 2 ^ 0 % 16 < 10 := Nat.not_le.mp (fun z => c46 ((nI_leI (a := 10) (b := c / 2 ^ 0 % 16) (by omega) (by omega)).mpr z))
              refine w_bipush (v := nI 48) d_PW_writeHex_49 (by decide) ?_
              refine w_iload_n d_PW_writeHex_51 rfl ?_
              refine w_iadd d_PW_writeHex_52 ?_
              refine w_topi (y := nI (48 + c / 2 ^ 0 % 16)) (nI_add _ _) ?_
              refine w_goto (tgt := 63) d_PW_writeHex_53 rfl ?_
              rw [show dg (c / 2 ^ 0 % 16) = 48 + c / 2 ^ 0 % 16 from if_pos c46] at J63; exact J63
          refine w_callV (as := [.int (nI (dg (c / 2 ^ 0 % 16)))]) (st := []) d_PW_writeHex_63 yM_PW_put l_PW_25 vM_PW_put kp5 rfl rfl rfl rfl (m_PW_put w5) (by decide) (by decide) (by decide) (by decide) (Nat.le_of_ble_eq_true rfl) ?_
          rintro _ h6 ⟨rfl, w6, o6⟩
          refine w_eq (st' := []) rfl ?_
          have kp6 := w6.1
          refine w_iinc (v := (-4)) d_PW_writeHex_66 rfl (by decide) (by decide) ?_
          refine w_pl (pl' := [some (.ref p), some (.int (nI c)), some (.int ((-4))), some (.int (nI (c / 2 ^ 0 % 16)))]) rfl ?_
          refine w_goto (tgt := 21) d_PW_writeHex_69 rfl ?_
          refine w_iload_n d_PW_writeHex_21 rfl ?_
          refine w_if_lt (tgt := 72) d_PW_writeHex_22 rfl (fun _ => ?_) (fun z => absurd (by decide) z)
          refine w_aload_n d_PW_writeHex_72 rfl rfl ?_
          refine w_bipush (v := nI 125) d_PW_writeHex_73 (by decide) ?_
          refine w_callV (as := [.int (nI 125)]) (st := []) d_PW_writeHex_75 yM_PW_put l_PW_25 vM_PW_put kp6 rfl rfl rfl rfl (m_PW_put w6) (by decide) (by decide) (by decide) (by decide) (Nat.le_of_ble_eq_true rfl) ?_
          rintro _ h7 ⟨rfl, w7, o7⟩
          refine w_eq (st' := []) rfl ?_
          have kp7 := w7.1
          rw [← hEN]
          refine w_vret d_PW_writeHex_78 rfl ?_
          have hxe : hx c = [dg (c / 2 ^ 8 % 16), dg (c / 2 ^ 4 % 16), dg (c / 2 ^ 0 % 16)] := by unfold hx; rw [if_neg (fun q => q z20), if_neg (fun q => q z16), if_neg (fun q => q z12), if_pos z8]
          refine ⟨rfl, ?_, ((((((o1.tr o2).tr o3).tr o4).tr o5).tr o6).tr o7)⟩
          rw [hxe]
          have q := w7
          simp only [List.append_assoc, List.cons_append, List.nil_append] at q ⊢
          exact q
        · have z8 : c / 2 ^ 8 = 0 := by
            rcases Nat.eq_zero_or_pos (c / 2 ^ 8) with z | z
            · exact z
            · exact absurd c28 (nI_ne0 z (by omega))
          refine w_iload_n d_PW_writeHex_31 rfl ?_
          refine w_if_ne (tgt := 66) d_PW_writeHex_32 rfl (fun _ => ?_) (fun z => absurd z (by decide))
          refine w_iinc (v := nI 4) d_PW_writeHex_66 rfl (by decide) (by decide) ?_
          refine w_pl (pl' := [some (.ref p), some (.int (nI c)), some (.int (nI 4)), none]) rfl ?_
          refine w_goto (tgt := 21) d_PW_writeHex_69 rfl ?_
          refine w_iload_n d_PW_writeHex_21 rfl ?_
          refine w_if_lt (tgt := 72) d_PW_writeHex_22 rfl (fun z => absurd z (by decide)) (fun _ => ?_)
          refine w_iload_n d_PW_writeHex_25 rfl ?_
          refine w_iload_n d_PW_writeHex_26 rfl ?_
          refine w_ishr d_PW_writeHex_27 ?_
          refine w_topi (y := nI (c / 2 ^ 4)) (pk_shrN (by omega) _ 4 (by decide)) ?_
          refine w_if_ne (tgt := 35) d_PW_writeHex_28 rfl (fun c28 => ?_) (fun c28 => ?_)
          · have z4 : ¬ c / 2 ^ 4 = 0 := fun z => c28 (by rw [z]; decide)
            refine w_iload_n d_PW_writeHex_35 rfl ?_
            refine w_iload_n d_PW_writeHex_36 rfl ?_
            refine w_ishr d_PW_writeHex_37 ?_
            refine w_topi (y := nI (c / 2 ^ 4)) (pk_shrN (by omega) _ 4 (by decide)) ?_
            refine w_bipush (v := nI 15) d_PW_writeHex_38 (by decide) ?_
            refine w_iand d_PW_writeHex_40 ?_
            refine w_topi (y := nI (c / 2 ^ 4 % 16)) (pk_andN (m := nI 15) (by omega) 4 (by decide)) ?_
            refine w_istore_n d_PW_writeHex_41 (by decide) ?_
            refine w_pl (pl' := [some (.ref p), some (.int (nI c)), some (.int (nI 4)), some (.int (nI (c / 2 ^ 4 % 16)))]) rfl ?_
            refine w_aload_n d_PW_writeHex_42 rfl rfl ?_
            refine w_iload_n d_PW_writeHex_43 rfl ?_
            refine w_bipush (v := nI 10) d_PW_writeHex_44 (by decide) ?_
            suffices J63 : WP X M_PW_writeHex (wR 2 0 0) 0 EN 0 0 63 [some (.ref p), some (.int (nI c)), some (.int (nI 4)), some (.int (nI (c / 2 ^ 4 % 16)))] [.int (nI (dg (c / 2 ^ 4 % 16))), .ref p] h3 by
              refine w_icmp_ge (tgt := 56) d_PW_writeHex_46 rfl (fun c46 => ?_) (fun c46 => ?_)
              · have c46 := (nI_leI (a := 10) (b := c / 2 ^ 4 % 16) (by omega) (by omega)).mp c46
                refine w_bipush (v := nI 97) d_PW_writeHex_56 (by decide) ?_
                refine w_iload_n d_PW_writeHex_58 rfl ?_
                refine w_iadd d_PW_writeHex_59 ?_
                refine w_topi (y := nI (97 + c / 2 ^ 4 % 16)) (nI_add _ _) ?_
                refine w_bipush (v := nI 10) d_PW_writeHex_60 (by decide) ?_
                refine w_isub d_PW_writeHex_62 ?_
                refine w_topi (y := nI (97 + c / 2 ^ 4 % 16 - 10)) (pk_sub (by omega)) ?_
                rw [show dg (c / 2 ^ 4 % 16) = 97 + c / 2 ^ 4 % 16 - 10 from if_neg (by omega)] at J63; exact J63
              · have c46 : c / 2 ^ 4 % 16 < 10 := Nat.not_le.mp (fun z => c46 ((nI_leI (a := 10) (b := c / 2 ^ 4 % 16) (by omega) (by omega)).mpr z))
                refine w_bipush (v := nI 48) d_PW_writeHex_49 (by decide) ?_
                refine w_iload_n d_PW_writeHex_51 rfl ?_
                refine w_iadd d_PW_writeHex_52 ?_
                refine w_topi (y := nI (48 + c / 2 ^ 4 % 16)) (nI_add _ _) ?_
                refine w_goto (tgt := 63) d_PW_writeHex_53 rfl ?_
                rw [show dg (c / 2 ^ 4 % 16) = 48 + c / 2 ^ 4 % 16 from if_pos c46] at J63; exact J63
            refine w_callV (as := [.int (nI (dg (c / 2 ^ 4 % 16)))]) (st := []) d_PW_writeHex_63 yM_PW_put l_PW_25 vM_PW_put kp3 rfl rfl rfl rfl (m_PW_put w3) (by decide) (by decide) (by decide) (by decide) (Nat.le_of_ble_eq_true rfl) ?_
            rintro _ h4 ⟨rfl, w4, o4⟩
            refine w_eq (st' := []) rfl ?_
            have kp4 := w4.1
            refine w_iinc (v := nI 0) d_PW_writeHex_66 rfl (by decide) (by decide) ?_
            refine w_pl (pl' := [some (.ref p), some (.int (nI c)), some (.int (nI 0)), some (.int (nI (c / 2 ^ 4 % 16)))]) rfl ?_
            refine w_goto (tgt := 21) d_PW_writeHex_69 rfl ?_
            refine w_iload_n d_PW_writeHex_21 rfl ?_
            refine w_if_lt (tgt := 72) d_PW_writeHex_22 rfl (fun z => absurd z (by decide)) (fun _ => ?_)
            refine w_iload_n d_PW_writeHex_25 rfl ?_
            refine w_iload_n d_PW_writeHex_26 rfl ?_
            refine w_ishr d_PW_writeHex_27 ?_
            refine w_topi (y := nI (c / 2 ^ 0)) (pk_shrN (by omega) _ 0 (by decide)) ?_
            refine w_if_ne (tgt := 35) d_PW_writeHex_28 rfl (fun _ => ?_) (fun z => absurd z (nI_ne0 (by omega) (by omega)))
            refine w_iload_n d_PW_writeHex_35 rfl ?_
            refine w_iload_n d_PW_writeHex_36 rfl ?_
            refine w_ishr d_PW_writeHex_37 ?_
            refine w_topi (y := nI (c / 2 ^ 0)) (pk_shrN (by omega) _ 0 (by decide)) ?_
            refine w_bipush (v := nI 15) d_PW_writeHex_38 (by decide) ?_
            refine w_iand d_PW_writeHex_40 ?_
            refine w_topi (y := nI (c / 2 ^ 0 % 16)) (pk_andN (m := nI 15) (by omega) 4 (by decide)) ?_
            refine w_istore_n d_PW_writeHex_41 (by decide) ?_
            refine w_pl (pl' := [some (.ref p), some (.int (nI c)), some (.int (nI 0)), some (.int (nI (c / 2 ^ 0 % 16)))]) rfl ?_
            refine w_aload_n d_PW_writeHex_42 rfl rfl ?_
            refine w_iload_n d_PW_writeHex_43 rfl ?_
            refine w_bipush (v := nI 10) d_PW_writeHex_44 (by decide) ?_
            suffices J63 : WP X M_PW_writeHex (wR 2 0 0) 0 EN 0 0 63 [some (.ref p), some (.int (nI c)), some (.int (nI 0)), some (.int (nI (c / 2 ^ 0 % 16)))] [.int (nI (dg (c / 2 ^ 0 % 16))), .ref p] h4 by
              refine w_icmp_ge (tgt := 56) d_PW_writeHex_46 rfl (fun c46 => ?_) (fun c46 => ?_)
              · have c46 := (nI_leI (a := 10) (b := c / 2 ^ 0 % 16) (by omega) (by omega)).mp c46
                refine w_bipush (v := nI 97) d_PW_writeHex_56 (by decide) ?_
                refine w_iload_n d_PW_writeHex_58 rfl ?_
                refine w_iadd d_PW_writeHex_59 ?_
                refine w_topi (y := nI (97 + c / 2 ^ 0 % 16)) (nI_add _ _) ?_
                refine w_bipush (v := nI 10) d_PW_writeHex_60 (by decide) ?_
                refine w_isub d_PW_writeHex_62 ?_
                refine w_topi (y := nI (97 + c / 2 ^ 0 % 16 - 10)) (pk_sub (by omega)) ?_
                rw [show dg (c / 2 ^ 0 % 16) = 97 + c / 2 ^ 0 % 16 - 10 from if_neg (by omega)] at J63; exact J63
              · have c46 : c / 2 ^ 0 % 16 < 10 := Nat.not_le.mp (fun z => c46 ((nI_leI (a := 10) (b := c / 2 ^ 0 % 16) (by omega) (by omega)).mpr z))
                refine w_bipush (v := nI 48) d_PW_writeHex_49 (by decide) ?_
                refine w_iload_n d_PW_writeHex_51 rfl ?_
                refine w_iadd d_PW_writeHex_52 ?_
                refine w_topi (y := nI (48 + c / 2 ^ 0 % 16)) (nI_add _ _) ?_
                refine w_goto (tgt := 63) d_PW_writeHex_53 rfl ?_
                rw [show dg (c / 2 ^ 0 % 16) = 48 + c / 2 ^ 0 % 16 from if_pos c46] at J63; exact J63
            refine w_callV (as := [.int (nI (dg (c / 2 ^ 0 % 16)))]) (st := []) d_PW_writeHex_63 yM_PW_put l_PW_25 vM_PW_put kp4 rfl rfl rfl rfl (m_PW_put w4) (by decide) (by decide) (by decide) (by decide) (Nat.le_of_ble_eq_true rfl) ?_
            rintro _ h5 ⟨rfl, w5, o5⟩
            refine w_eq (st' := []) rfl ?_
            have kp5 := w5.1
            refine w_iinc (v := (-4)) d_PW_writeHex_66 rfl (by decide) (by decide) ?_
            refine w_pl (pl' := [some (.ref p), some (.int (nI c)), some (.int ((-4))), some (.int (nI (c / 2 ^ 0 % 16)))]) rfl ?_
            refine w_goto (tgt := 21) d_PW_writeHex_69 rfl ?_
            refine w_iload_n d_PW_writeHex_21 rfl ?_
            refine w_if_lt (tgt := 72) d_PW_writeHex_22 rfl (fun _ => ?_) (fun z => absurd (by decide) z)
            refine w_aload_n d_PW_writeHex_72 rfl rfl ?_
            refine w_bipush (v := nI 125) d_PW_writeHex_73 (by decide) ?_
            refine w_callV (as := [.int (nI 125)]) (st := []) d_PW_writeHex_75 yM_PW_put l_PW_25 vM_PW_put kp5 rfl rfl rfl rfl (m_PW_put w5) (by decide) (by decide) (by decide) (by decide) (Nat.le_of_ble_eq_true rfl) ?_
            rintro _ h6 ⟨rfl, w6, o6⟩
            refine w_eq (st' := []) rfl ?_
            have kp6 := w6.1
            rw [← hEN]
            refine w_vret d_PW_writeHex_78 rfl ?_
            have hxe : hx c = [dg (c / 2 ^ 4 % 16), dg (c / 2 ^ 0 % 16)] := by unfold hx; rw [if_neg (fun q => q z20), if_neg (fun q => q z16), if_neg (fun q => q z12), if_neg (fun q => q z8), if_pos z4]
            refine ⟨rfl, ?_, (((((o1.tr o2).tr o3).tr o4).tr o5).tr o6)⟩
            rw [hxe]
            have q := w6
            simp only [List.append_assoc, List.cons_append, List.nil_append] at q ⊢
            exact q
          · have z4 : c / 2 ^ 4 = 0 := by
              rcases Nat.eq_zero_or_pos (c / 2 ^ 4) with z | z
              · exact z
              · exact absurd c28 (nI_ne0 z (by omega))
            refine w_iload_n d_PW_writeHex_31 rfl ?_
            refine w_if_ne (tgt := 66) d_PW_writeHex_32 rfl (fun _ => ?_) (fun z => absurd z (by decide))
            refine w_iinc (v := nI 0) d_PW_writeHex_66 rfl (by decide) (by decide) ?_
            refine w_pl (pl' := [some (.ref p), some (.int (nI c)), some (.int (nI 0)), none]) rfl ?_
            refine w_goto (tgt := 21) d_PW_writeHex_69 rfl ?_
            refine w_iload_n d_PW_writeHex_21 rfl ?_
            refine w_if_lt (tgt := 72) d_PW_writeHex_22 rfl (fun z => absurd z (by decide)) (fun _ => ?_)
            refine w_iload_n d_PW_writeHex_25 rfl ?_
            refine w_iload_n d_PW_writeHex_26 rfl ?_
            refine w_ishr d_PW_writeHex_27 ?_
            refine w_topi (y := nI (c / 2 ^ 0)) (pk_shrN (by omega) _ 0 (by decide)) ?_
            refine w_if_ne (tgt := 35) d_PW_writeHex_28 rfl (fun c28 => ?_) (fun c28 => ?_)
            · have z0 : ¬ c / 2 ^ 0 = 0 := fun z => c28 (by rw [z]; decide)
              refine w_iload_n d_PW_writeHex_35 rfl ?_
              refine w_iload_n d_PW_writeHex_36 rfl ?_
              refine w_ishr d_PW_writeHex_37 ?_
              refine w_topi (y := nI (c / 2 ^ 0)) (pk_shrN (by omega) _ 0 (by decide)) ?_
              refine w_bipush (v := nI 15) d_PW_writeHex_38 (by decide) ?_
              refine w_iand d_PW_writeHex_40 ?_
              refine w_topi (y := nI (c / 2 ^ 0 % 16)) (pk_andN (m := nI 15) (by omega) 4 (by decide)) ?_
              refine w_istore_n d_PW_writeHex_41 (by decide) ?_
              refine w_pl (pl' := [some (.ref p), some (.int (nI c)), some (.int (nI 0)), some (.int (nI (c / 2 ^ 0 % 16)))]) rfl ?_
              refine w_aload_n d_PW_writeHex_42 rfl rfl ?_
              refine w_iload_n d_PW_writeHex_43 rfl ?_
              refine w_bipush (v := nI 10) d_PW_writeHex_44 (by decide) ?_
              suffices J63 : WP X M_PW_writeHex (wR 2 0 0) 0 EN 0 0 63 [some (.ref p), some (.int (nI c)), some (.int (nI 0)), some (.int (nI (c / 2 ^ 0 % 16)))] [.int (nI (dg (c / 2 ^ 0 % 16))), .ref p] h3 by
                refine w_icmp_ge (tgt := 56) d_PW_writeHex_46 rfl (fun c46 => ?_) (fun c46 => ?_)
                · have c46 := (nI_leI (a := 10) (b := c / 2 ^ 0 % 16) (by omega) (by omega)).mp c46
                  refine w_bipush (v := nI 97) d_PW_writeHex_56 (by decide) ?_
                  refine w_iload_n d_PW_writeHex_58 rfl ?_
                  refine w_iadd d_PW_writeHex_59 ?_
                  refine w_topi (y := nI (97 + c / 2 ^ 0 % 16)) (nI_add _ _) ?_
                  refine w_bipush (v := nI 10) d_PW_writeHex_60 (by decide) ?_
                  refine w_isub d_PW_writeHex_62 ?_
                  refine w_topi (y := nI (97 + c / 2 ^ 0 % 16 - 10)) (pk_sub (by omega)) ?_
                  rw [show dg (c / 2 ^ 0 % 16) = 97 + c / 2 ^ 0 % 16 - 10 from if_neg (by omega)] at J63; exact J63
                · have c46 : c / 2 ^ 0 % 16 < 10 := Nat.not_le.mp (fun z => c46 ((nI_leI (a := 10) (b := c / 2 ^ 0 % 16) (by omega) (by omega)).mpr z))
                  refine w_bipush (v := nI 48) d_PW_writeHex_49 (by decide) ?_
                  refine w_iload_n d_PW_writeHex_51 rfl ?_
                  refine w_iadd d_PW_writeHex_52 ?_
                  refine w_topi (y := nI (48 + c / 2 ^ 0 % 16)) (nI_add _ _) ?_
                  refine w_goto (tgt := 63) d_PW_writeHex_53 rfl ?_
                  rw [show dg (c / 2 ^ 0 % 16) = 48 + c / 2 ^ 0 % 16 from if_pos c46] at J63; exact J63
              refine w_callV (as := [.int (nI (dg (c / 2 ^ 0 % 16)))]) (st := []) d_PW_writeHex_63 yM_PW_put l_PW_25 vM_PW_put kp3 rfl rfl rfl rfl (m_PW_put w3) (by decide) (by decide) (by decide) (by decide) (Nat.le_of_ble_eq_true rfl) ?_
              rintro _ h4 ⟨rfl, w4, o4⟩
              refine w_eq (st' := []) rfl ?_
              have kp4 := w4.1
              refine w_iinc (v := (-4)) d_PW_writeHex_66 rfl (by decide) (by decide) ?_
              refine w_pl (pl' := [some (.ref p), some (.int (nI c)), some (.int ((-4))), some (.int (nI (c / 2 ^ 0 % 16)))]) rfl ?_
              refine w_goto (tgt := 21) d_PW_writeHex_69 rfl ?_
              refine w_iload_n d_PW_writeHex_21 rfl ?_
              refine w_if_lt (tgt := 72) d_PW_writeHex_22 rfl (fun _ => ?_) (fun z => absurd (by decide) z)
              refine w_aload_n d_PW_writeHex_72 rfl rfl ?_
              refine w_bipush (v := nI 125) d_PW_writeHex_73 (by decide) ?_
              refine w_callV (as := [.int (nI 125)]) (st := []) d_PW_writeHex_75 yM_PW_put l_PW_25 vM_PW_put kp4 rfl rfl rfl rfl (m_PW_put w4) (by decide) (by decide) (by decide) (by decide) (Nat.le_of_ble_eq_true rfl) ?_
              rintro _ h5 ⟨rfl, w5, o5⟩
              refine w_eq (st' := []) rfl ?_
              have kp5 := w5.1
              rw [← hEN]
              refine w_vret d_PW_writeHex_78 rfl ?_
              have hxe : hx c = [dg (c / 2 ^ 0 % 16)] := by unfold hx; rw [if_neg (fun q => q z20), if_neg (fun q => q z16), if_neg (fun q => q z12), if_neg (fun q => q z8), if_neg (fun q => q z4)]
              refine ⟨rfl, ?_, ((((o1.tr o2).tr o3).tr o4).tr o5)⟩
              rw [hxe]
              have q := w5
              simp only [List.append_assoc, List.cons_append, List.nil_append] at q ⊢
              exact q
            · have z0 : c / 2 ^ 0 = 0 := by
                rcases Nat.eq_zero_or_pos (c / 2 ^ 0) with z | z
                · exact z
                · exact absurd c28 (nI_ne0 z (by omega))
              refine w_iload_n d_PW_writeHex_31 rfl ?_
              refine w_if_ne (tgt := 66) d_PW_writeHex_32 rfl (fun z => absurd (by decide) z) (fun _ => ?_)
              refine w_iload_n d_PW_writeHex_35 rfl ?_
              refine w_iload_n d_PW_writeHex_36 rfl ?_
              refine w_ishr d_PW_writeHex_37 ?_
              refine w_topi (y := nI (c / 2 ^ 0)) (pk_shrN (by omega) _ 0 (by decide)) ?_
              refine w_bipush (v := nI 15) d_PW_writeHex_38 (by decide) ?_
              refine w_iand d_PW_writeHex_40 ?_
              refine w_topi (y := nI (c / 2 ^ 0 % 16)) (pk_andN (m := nI 15) (by omega) 4 (by decide)) ?_
              refine w_istore_n d_PW_writeHex_41 (by decide) ?_
              refine w_pl (pl' := [some (.ref p), some (.int (nI c)), some (.int (nI 0)), some (.int (nI (c / 2 ^ 0 % 16)))]) rfl ?_
              refine w_aload_n d_PW_writeHex_42 rfl rfl ?_
              refine w_iload_n d_PW_writeHex_43 rfl ?_
              refine w_bipush (v := nI 10) d_PW_writeHex_44 (by decide) ?_
              suffices J63 : WP X M_PW_writeHex (wR 2 0 0) 0 EN 0 0 63 [some (.ref p), some (.int (nI c)), some (.int (nI 0)), some (.int (nI (c / 2 ^ 0 % 16)))] [.int (nI (dg (c / 2 ^ 0 % 16))), .ref p] h3 by
                refine w_icmp_ge (tgt := 56) d_PW_writeHex_46 rfl (fun c46 => ?_) (fun c46 => ?_)
                · have c46 := (nI_leI (a := 10) (b := c / 2 ^ 0 % 16) (by omega) (by omega)).mp c46
                  refine w_bipush (v := nI 97) d_PW_writeHex_56 (by decide) ?_
                  refine w_iload_n d_PW_writeHex_58 rfl ?_
                  refine w_iadd d_PW_writeHex_59 ?_
                  refine w_topi (y := nI (97 + c / 2 ^ 0 % 16)) (nI_add _ _) ?_
                  refine w_bipush (v := nI 10) d_PW_writeHex_60 (by decide) ?_
                  refine w_isub d_PW_writeHex_62 ?_
                  refine w_topi (y := nI (97 + c / 2 ^ 0 % 16 - 10)) (pk_sub (by omega)) ?_
                  rw [show dg (c / 2 ^ 0 % 16) = 97 + c / 2 ^ 0 % 16 - 10 from if_neg (by omega)] at J63; exact J63
                · have c46 : c / 2 ^ 0 % 16 < 10 := Nat.not_le.mp (fun z => c46 ((nI_leI (a := 10) (b := c / 2 ^ 0 % 16) (by omega) (by omega)).mpr z))
                  refine w_bipush (v := nI 48) d_PW_writeHex_49 (by decide) ?_
                  refine w_iload_n d_PW_writeHex_51 rfl ?_
                  refine w_iadd d_PW_writeHex_52 ?_
                  refine w_topi (y := nI (48 + c / 2 ^ 0 % 16)) (nI_add _ _) ?_
                  refine w_goto (tgt := 63) d_PW_writeHex_53 rfl ?_
                  rw [show dg (c / 2 ^ 0 % 16) = 48 + c / 2 ^ 0 % 16 from if_pos c46] at J63; exact J63
              refine w_callV (as := [.int (nI (dg (c / 2 ^ 0 % 16)))]) (st := []) d_PW_writeHex_63 yM_PW_put l_PW_25 vM_PW_put kp3 rfl rfl rfl rfl (m_PW_put w3) (by decide) (by decide) (by decide) (by decide) (Nat.le_of_ble_eq_true rfl) ?_
              rintro _ h4 ⟨rfl, w4, o4⟩
              refine w_eq (st' := []) rfl ?_
              have kp4 := w4.1
              refine w_iinc (v := (-4)) d_PW_writeHex_66 rfl (by decide) (by decide) ?_
              refine w_pl (pl' := [some (.ref p), some (.int (nI c)), some (.int ((-4))), some (.int (nI (c / 2 ^ 0 % 16)))]) rfl ?_
              refine w_goto (tgt := 21) d_PW_writeHex_69 rfl ?_
              refine w_iload_n d_PW_writeHex_21 rfl ?_
              refine w_if_lt (tgt := 72) d_PW_writeHex_22 rfl (fun _ => ?_) (fun z => absurd (by decide) z)
              refine w_aload_n d_PW_writeHex_72 rfl rfl ?_
              refine w_bipush (v := nI 125) d_PW_writeHex_73 (by decide) ?_
              refine w_callV (as := [.int (nI 125)]) (st := []) d_PW_writeHex_75 yM_PW_put l_PW_25 vM_PW_put kp4 rfl rfl rfl rfl (m_PW_put w4) (by decide) (by decide) (by decide) (by decide) (Nat.le_of_ble_eq_true rfl) ?_
              rintro _ h5 ⟨rfl, w5, o5⟩
              refine w_eq (st' := []) rfl ?_
              have kp5 := w5.1
              rw [← hEN]
              refine w_vret d_PW_writeHex_78 rfl ?_
              have hxe : hx c = [dg (c / 2 ^ 0 % 16)] := by unfold hx; rw [if_neg (fun q => q z20), if_neg (fun q => q z16), if_neg (fun q => q z12), if_neg (fun q => q z8), if_neg (fun q => q z4)]
              refine ⟨rfl, ?_, ((((o1.tr o2).tr o3).tr o4).tr o5)⟩
              rw [hxe]
              have q := w5
              simp only [List.append_assoc, List.cons_append, List.nil_append] at q ⊢
              exact q
set_option maxHeartbeats 4000000 in
set_option maxRecDepth 100000 in
theorem m_PW_writeCode {h : wH} {p c : Nat} {o : List Nat} (hw : hPW h p o) (hc : c < 2 ^ 24) : PM X M_PW_writeCode 3 0 0 [.ref p, .int (nI c)] h (fun r h' => r = none ∧ hPW h' p (o ++ cT c) ∧ wOff h h' p 3) := by
  have hw0 := hw
  have kp := hw.1
  refine PM.at (pl := [some (.ref p), some (.int (nI c))]) rfl rfl (by simp [wle, wen]) ?_
  generalize hEN : wEm X 0 0 _ = EN
  refine w_iload_n d_PW_writeCode_0 rfl ?_
  refine w_bipush (v := nI 33) d_PW_writeCode_1 (by decide) ?_
  suffices J12 : (c < 33 ∨ 126 < c) → WP X M_PW_writeCode (wR 3 0 0) 0 EN 0 0 12 [some (.ref p), some (.int (nI c))] [] h by
    refine w_icmp_lt (tgt := 12) d_PW_writeCode_3 rfl (fun c3 => ?_) (fun c3 => ?_)
    · have c3 := (nI_ltI (a := c) (b := 33) (by omega) (by decide)).mp c3
      exact J12 (Or.inl c3)
    · have c3 : ¬ c < 33 := fun z => c3 ((nI_ltI (a := c) (b := 33) (by omega) (by decide)).mpr z)
      refine w_iload_n d_PW_writeCode_6 rfl ?_
      refine w_bipush (v := nI 126) d_PW_writeCode_7 (by decide) ?_
      refine w_icmp_le (tgt := 18) d_PW_writeCode_9 rfl (fun c9 => ?_) (fun c9 => ?_)
      · have c9 := (nI_leI (a := c) (b := 126) (by omega) (by decide)).mp c9
        refine w_iload_n d_PW_writeCode_18 rfl ?_
        refine w_callS (as := [.int (nI c)]) (st := []) d_PW_writeCode_19 yM_PW_isSign l_PW_64 sM_PW_isSign rfl rfl (m_PW_isSign (by omega)) (by decide) (by decide) (by decide) (by decide) (Nat.le_of_ble_eq_true rfl) ?_
        rintro _ h9_1 ⟨rfl, e9_1⟩
        rw [e9_1]
        refine w_eq (st' := [.int (bI (sgn c))]) rfl ?_
        refine w_if_eq (tgt := 31) d_PW_writeCode_22 rfl (fun c22 => ?_) (fun c22 => ?_)
        · have c22 := bI_f c22
          refine w_aload_n d_PW_writeCode_31 rfl rfl ?_
          refine w_iload_n d_PW_writeCode_32 rfl ?_
          refine w_callV (as := [.int (nI c)]) (st := []) d_PW_writeCode_33 yM_PW_put l_PW_25 vM_PW_put kp rfl rfl rfl rfl (m_PW_put hw0) (by decide) (by decide) (by decide) (by decide) (Nat.le_of_ble_eq_true rfl) ?_
          rintro _ h1 ⟨rfl, w1, o1⟩
          refine w_eq (st' := []) rfl ?_
          have kp1 := w1.1
          rw [← hEN]
          refine w_vret d_PW_writeCode_36 rfl ?_
          unfold cT
          rw [if_neg (by omega)]
          first
            | (rw [if_neg (by rw [c22]; decide)]; exact ⟨rfl, w1, o1⟩)
            | (rw [if_pos c22]; exact ⟨rfl, by rw [List.append_assoc] at w2; exact w2, o1.tr o2⟩)
        · have c22 := bI_t c22
          refine w_aload_n d_PW_writeCode_25 rfl rfl ?_
          refine w_bipush (v := nI 92) d_PW_writeCode_26 (by decide) ?_
          refine w_callV (as := [.int (nI 92)]) (st := []) d_PW_writeCode_28 yM_PW_put l_PW_25 vM_PW_put kp rfl rfl rfl rfl (m_PW_put hw0) (by decide) (by decide) (by decide) (by decide) (Nat.le_of_ble_eq_true rfl) ?_
          rintro _ h1 ⟨rfl, w1, o1⟩
          refine w_eq (st' := []) rfl ?_
          have kp1 := w1.1
          refine w_aload_n d_PW_writeCode_31 rfl rfl ?_
          refine w_iload_n d_PW_writeCode_32 rfl ?_
          refine w_callV (as := [.int (nI c)]) (st := []) d_PW_writeCode_33 yM_PW_put l_PW_25 vM_PW_put kp1 rfl rfl rfl rfl (m_PW_put w1) (by decide) (by decide) (by decide) (by decide) (Nat.le_of_ble_eq_true rfl) ?_
          rintro _ h2 ⟨rfl, w2, o2⟩
          refine w_eq (st' := []) rfl ?_
          have kp2 := w2.1
          rw [← hEN]
          refine w_vret d_PW_writeCode_36 rfl ?_
          unfold cT
          rw [if_neg (by omega)]
          first
            | (rw [if_neg (by rw [c22]; decide)]; exact ⟨rfl, w1, o1⟩)
            | (rw [if_pos c22]; exact ⟨rfl, by rw [List.append_assoc] at w2; exact w2, o1.tr o2⟩)
      · have c9 : 126 < c := Nat.not_le.mp (fun z => c9 ((nI_leI (a := c) (b := 126) (by omega) (by decide)).mpr z))
        exact J12 (Or.inr c9)
  intro hcc
  refine w_aload_n d_PW_writeCode_12 rfl rfl ?_
  refine w_iload_n d_PW_writeCode_13 rfl ?_
  refine w_callV (as := [.int (nI c)]) (st := []) d_PW_writeCode_14 yM_PW_writeHex l_PW_61 vM_PW_writeHex kp rfl rfl rfl rfl (m_PW_writeHex hw0 hc) (by decide) (by decide) (by decide) (by decide) (Nat.le_of_ble_eq_true rfl) ?_
  rintro _ h1 ⟨rfl, w1, o1⟩
  refine w_eq (st' := []) rfl ?_
  rw [← hEN]
  refine w_vret d_PW_writeCode_17 rfl ?_
  unfold cT
  rw [if_pos hcc]
  exact ⟨rfl, w1, o1⟩
set_option maxHeartbeats 4000000 in
set_option maxRecDepth 100000 in
theorem m_PW_writeRange {h : wH} {p a b : Nat} {o : List Nat} (hw : hPW h p o) (ha : a < 2 ^ 24) (hb : b < 2 ^ 24) : PM X M_PW_writeRange 4 0 0 [.ref p, .int (nI a), .int (nI b)] h (fun r h' => r = none ∧ hPW h' p (o ++ rT a b) ∧ wOff h h' p 3) := by
  have hw0 := hw
  have kp := hw.1
  refine PM.at (pl := [some (.ref p), some (.int (nI a)), some (.int (nI b))]) rfl rfl (by simp [wle, wen]) ?_
  generalize hEN : wEm X 0 0 _ = EN
  refine w_aload_n d_PW_writeRange_0 rfl rfl ?_
  refine w_iload_n d_PW_writeRange_1 rfl ?_
  refine w_callV (as := [.int (nI a)]) (st := []) d_PW_writeRange_2 yM_PW_writeCode l_PW_54 vM_PW_writeCode kp rfl rfl rfl rfl (m_PW_writeCode hw0 (by omega)) (by decide) (by decide) (by decide) (by decide) (Nat.le_of_ble_eq_true rfl) ?_
  rintro _ h1 ⟨rfl, w1, o1⟩
  refine w_eq (st' := []) rfl ?_
  have kp1 := w1.1
  refine w_iload_n d_PW_writeRange_5 rfl ?_
  refine w_iload_n d_PW_writeRange_6 rfl ?_
  refine w_icmp_ne (tgt := 11) d_PW_writeRange_7 rfl (fun c7 => ?_) (fun c7 => ?_)
  · have c7 : ¬ b = a := fun z => c7 (by rw [z])
    refine w_iload_n d_PW_writeRange_11 rfl ?_
    refine w_iload_n d_PW_writeRange_12 rfl ?_
    refine w_iconst (v := nI 1) d_PW_writeRange_13 (by decide) ?_
    refine w_iadd d_PW_writeRange_14 ?_
    refine w_topi (y := nI (a + 1)) (nI_add _ _) ?_
    refine w_icmp_le (tgt := 24) d_PW_writeRange_15 rfl (fun c15 => ?_) (fun c15 => ?_)
    · have c15 := (nI_leI (a := b) (b := a + 1) (by omega) (by omega)).mp c15
      refine w_aload_n d_PW_writeRange_24 rfl rfl ?_
      refine w_iload_n d_PW_writeRange_25 rfl ?_
      refine w_callV (as := [.int (nI b)]) (st := []) d_PW_writeRange_26 yM_PW_writeCode l_PW_54 vM_PW_writeCode kp1 rfl rfl rfl rfl (m_PW_writeCode w1 (by omega)) (by decide) (by decide) (by decide) (by decide) (Nat.le_of_ble_eq_true rfl) ?_
      rintro _ h2 ⟨rfl, w2, o2⟩
      refine w_eq (st' := []) rfl ?_
      have kp2 := w2.1
      rw [← hEN]
      refine w_vret d_PW_writeRange_29 rfl ?_
      unfold rT
      rw [if_neg c7]
      first
        | (rw [if_pos c15]; refine ⟨rfl, ?_, (o1.tr o2).tr o3⟩; simp only [List.append_assoc] at w3 ⊢; exact w3)
        | (rw [if_neg (by omega)]; refine ⟨rfl, ?_, o1.tr o2⟩; simp only [List.append_assoc, List.nil_append] at w2 ⊢; exact w2)
    · have c15 : a + 1 < b := Nat.not_le.mp (fun z => c15 ((nI_leI (a := b) (b := a + 1) (by omega) (by omega)).mpr z))
      refine w_aload_n d_PW_writeRange_18 rfl rfl ?_
      refine w_bipush (v := nI 45) d_PW_writeRange_19 (by decide) ?_
      refine w_callV (as := [.int (nI 45)]) (st := []) d_PW_writeRange_21 yM_PW_put l_PW_25 vM_PW_put kp1 rfl rfl rfl rfl (m_PW_put w1) (by decide) (by decide) (by decide) (by decide) (Nat.le_of_ble_eq_true rfl) ?_
      rintro _ h2 ⟨rfl, w2, o2⟩
      refine w_eq (st' := []) rfl ?_
      have kp2 := w2.1
      refine w_aload_n d_PW_writeRange_24 rfl rfl ?_
      refine w_iload_n d_PW_writeRange_25 rfl ?_
      refine w_callV (as := [.int (nI b)]) (st := []) d_PW_writeRange_26 yM_PW_writeCode l_PW_54 vM_PW_writeCode kp2 rfl rfl rfl rfl (m_PW_writeCode w2 (by omega)) (by decide) (by decide) (by decide) (by decide) (Nat.le_of_ble_eq_true rfl) ?_
      rintro _ h3 ⟨rfl, w3, o3⟩
      refine w_eq (st' := []) rfl ?_
      have kp3 := w3.1
      rw [← hEN]
      refine w_vret d_PW_writeRange_29 rfl ?_
      unfold rT
      rw [if_neg c7]
      first
        | (rw [if_pos c15]; refine ⟨rfl, ?_, (o1.tr o2).tr o3⟩; simp only [List.append_assoc] at w3 ⊢; exact w3)
        | (rw [if_neg (by omega)]; refine ⟨rfl, ?_, o1.tr o2⟩; simp only [List.append_assoc, List.nil_append] at w2 ⊢; exact w2)
  · have c7 : b = a := (nI_eq (by omega) (by omega)).mp c7
    rw [← hEN]
    refine w_vret d_PW_writeRange_10 rfl ?_
    unfold rT
    rw [if_pos c7, List.append_nil]
    exact ⟨rfl, w1, o1⟩
set_option maxHeartbeats 4000000 in
set_option maxRecDepth 100000 in
theorem m_PW_writeString {h : wH} {p a b t : Nat} {o : List Nat} (hw : hPW h p o) (ha : a < 1114112) (hb : b < 1114112) (ht : t ≤ 1114112) : PM X M_PW_writeString 4 0 0 [.ref p, .long (lN (kOf a b t))] h (fun r h' => r = none ∧ hPW h' p (o ++ sT (kOf a b t)) ∧ wOff h h' p 3) := by
  have hw0 := hw
  have kp := hw.1
  obtain ⟨q1, q2, q3⟩ := sOk_abc ha hb ht
  refine PM.at (pl := [some (.ref p), some (.long (lN (kOf a b t))), none, none, none]) rfl rfl (by simp [wle, wen]) ?_
  generalize hEN : wEm X 0 0 _ = EN
  refine w_aload_n d_PW_writeString_0 rfl rfl ?_
  refine w_bipush (v := nI 123) d_PW_writeString_1 (by decide) ?_
  refine w_callV (as := [.int (nI 123)]) (st := []) d_PW_writeString_3 yM_PW_put l_PW_25 vM_PW_put kp rfl rfl rfl rfl (m_PW_put hw0) (by decide) (by decide) (by decide) (by decide) (Nat.le_of_ble_eq_true rfl) ?_
  rintro _ h1 ⟨rfl, w1, o1⟩
  refine w_eq (st' := []) rfl ?_
  have kp1 := w1.1
  refine w_iconst (v := nI 0) d_PW_writeString_6 (by decide) ?_
  refine w_istore_n d_PW_writeString_7 (by decide) ?_
  refine w_pl (pl' := [some (.ref p), some (.long (lN (kOf a b t))), none, some (.int (nI 0)), none]) rfl ?_
  refine w_iload_n d_PW_writeString_8 rfl ?_
  refine w_iconst (v := nI 3) d_PW_writeString_9 (by decide) ?_
  refine w_icmp_ge (tgt := 38) d_PW_writeString_10 rfl (fun z => absurd z (by decide)) (fun _ => ?_)
  refine w_lload_n d_PW_writeString_13 rfl ?_
  refine w_iload_n d_PW_writeString_14 rfl ?_
  refine w_callS (as := [.long (lN (kOf a b t)), .int (nI 0)]) (st := []) d_PW_writeString_15 yM_MS_codeOfKey l_PW_57 sM_MS_codeOfKey rfl rfl (m_MS_codeOfKey0 ha hb ht) (by decide) (by decide) (by decide) (by decide) (Nat.le_of_ble_eq_true rfl) ?_
  rintro _ h9_1 ⟨rfl, e9_1⟩
  rw [e9_1]
  refine w_eq (st' := [.int (nI a)]) rfl ?_
  refine w_istore d_PW_writeString_18 (by decide) ?_
  refine w_pl (pl' := [some (.ref p), some (.long (lN (kOf a b t))), none, some (.int (nI 0)), some (.int (nI a))]) rfl ?_
  refine w_iload d_PW_writeString_20 rfl ?_
  refine w_iconst (v := -1) d_PW_writeString_22 (by decide) ?_
  refine w_icmp_eq (tgt := 32) d_PW_writeString_23 rfl (fun z => absurd z (nI_nm1 (by omega))) (fun _ => ?_)
  refine w_aload_n d_PW_writeString_26 rfl rfl ?_
  refine w_iload d_PW_writeString_27 rfl ?_
  refine w_callV (as := [.int (nI a)]) (st := []) d_PW_writeString_29 yM_PW_writeCode l_PW_54 vM_PW_writeCode kp1 rfl rfl rfl rfl (m_PW_writeCode w1 (by omega)) (by decide) (by decide) (by decide) (by decide) (Nat.le_of_ble_eq_true rfl) ?_
  rintro _ h2 ⟨rfl, w2, o2⟩
  refine w_eq (st' := []) rfl ?_
  have kp2 := w2.1
  refine w_iinc (v := nI 1) d_PW_writeString_32 rfl (by decide) (by decide) ?_
  refine w_pl (pl' := [some (.ref p), some (.long (lN (kOf a b t))), none, some (.int (nI 1)), some (.int (nI a))]) rfl ?_
  refine w_goto (tgt := 8) d_PW_writeString_35 rfl ?_
  refine w_iload_n d_PW_writeString_8 rfl ?_
  refine w_iconst (v := nI 3) d_PW_writeString_9 (by decide) ?_
  refine w_icmp_ge (tgt := 38) d_PW_writeString_10 rfl (fun z => absurd z (by decide)) (fun _ => ?_)
  refine w_lload_n d_PW_writeString_13 rfl ?_
  refine w_iload_n d_PW_writeString_14 rfl ?_
  refine w_callS (as := [.long (lN (kOf a b t)), .int (nI 1)]) (st := []) d_PW_writeString_15 yM_MS_codeOfKey l_PW_57 sM_MS_codeOfKey rfl rfl (m_MS_codeOfKey1 ha hb ht) (by decide) (by decide) (by decide) (by decide) (Nat.le_of_ble_eq_true rfl) ?_
  rintro _ h9_2 ⟨rfl, e9_2⟩
  rw [e9_2]
  refine w_eq (st' := [.int (nI b)]) rfl ?_
  refine w_istore d_PW_writeString_18 (by decide) ?_
  refine w_pl (pl' := [some (.ref p), some (.long (lN (kOf a b t))), none, some (.int (nI 1)), some (.int (nI b))]) rfl ?_
  refine w_iload d_PW_writeString_20 rfl ?_
  refine w_iconst (v := -1) d_PW_writeString_22 (by decide) ?_
  refine w_icmp_eq (tgt := 32) d_PW_writeString_23 rfl (fun z => absurd z (nI_nm1 (by omega))) (fun _ => ?_)
  refine w_aload_n d_PW_writeString_26 rfl rfl ?_
  refine w_iload d_PW_writeString_27 rfl ?_
  refine w_callV (as := [.int (nI b)]) (st := []) d_PW_writeString_29 yM_PW_writeCode l_PW_54 vM_PW_writeCode kp2 rfl rfl rfl rfl (m_PW_writeCode w2 (by omega)) (by decide) (by decide) (by decide) (by decide) (Nat.le_of_ble_eq_true rfl) ?_
  rintro _ h3 ⟨rfl, w3, o3⟩
  refine w_eq (st' := []) rfl ?_
  have kp3 := w3.1
  refine w_iinc (v := nI 2) d_PW_writeString_32 rfl (by decide) (by decide) ?_
  refine w_pl (pl' := [some (.ref p), some (.long (lN (kOf a b t))), none, some (.int (nI 2)), some (.int (nI b))]) rfl ?_
  refine w_goto (tgt := 8) d_PW_writeString_35 rfl ?_
  refine w_iload_n d_PW_writeString_8 rfl ?_
  refine w_iconst (v := nI 3) d_PW_writeString_9 (by decide) ?_
  refine w_icmp_ge (tgt := 38) d_PW_writeString_10 rfl (fun z => absurd z (by decide)) (fun _ => ?_)
  refine w_lload_n d_PW_writeString_13 rfl ?_
  refine w_iload_n d_PW_writeString_14 rfl ?_
  refine w_callS (as := [.long (lN (kOf a b t)), .int (nI 2)]) (st := []) d_PW_writeString_15 yM_MS_codeOfKey l_PW_57 sM_MS_codeOfKey rfl rfl (m_MS_codeOfKey2 ha hb ht) (by decide) (by decide) (by decide) (by decide) (Nat.le_of_ble_eq_true rfl) ?_
  rintro _ h9_3 ⟨rfl, e9_3⟩
  rw [e9_3]
  refine w_eq (st' := [.int (nI t - nI 1)]) rfl ?_
  refine w_istore d_PW_writeString_18 (by decide) ?_
  refine w_pl (pl' := [some (.ref p), some (.long (lN (kOf a b t))), none, some (.int (nI 2)), some (.int (nI t - nI 1))]) rfl ?_
  refine w_iload d_PW_writeString_20 rfl ?_
  refine w_iconst (v := -1) d_PW_writeString_22 (by decide) ?_
  refine w_icmp_eq (tgt := 32) d_PW_writeString_23 rfl (fun c23 => ?_) (fun c23 => ?_)
  · have c23 : t = 0 := by
      rcases Nat.eq_zero_or_pos t with z | z
      · exact z
      · rw [pk_sub z] at c23; exact absurd c23 (nI_nm1 (by omega))
    refine w_iinc (v := nI 3) d_PW_writeString_32 rfl (by decide) (by decide) ?_
    refine w_pl (pl' := [some (.ref p), some (.long (lN (kOf a b t))), none, some (.int (nI 3)), some (.int (nI t - nI 1))]) rfl ?_
    refine w_goto (tgt := 8) d_PW_writeString_35 rfl ?_
    refine w_iload_n d_PW_writeString_8 rfl ?_
    refine w_iconst (v := nI 3) d_PW_writeString_9 (by decide) ?_
    refine w_icmp_ge (tgt := 38) d_PW_writeString_10 rfl (fun _ => ?_) (fun z => absurd (by decide) z)
    refine w_aload_n d_PW_writeString_38 rfl rfl ?_
    refine w_bipush (v := nI 125) d_PW_writeString_39 (by decide) ?_
    refine w_callV (as := [.int (nI 125)]) (st := []) d_PW_writeString_41 yM_PW_put l_PW_25 vM_PW_put kp3 rfl rfl rfl rfl (m_PW_put w3) (by decide) (by decide) (by decide) (by decide) (Nat.le_of_ble_eq_true rfl) ?_
    rintro _ h4 ⟨rfl, w4, o4⟩
    refine w_eq (st' := []) rfl ?_
    have kp4 := w4.1
    rw [← hEN]
    refine w_vret d_PW_writeString_44 rfl ?_
    unfold sT
    rw [q1, q2, q3]
    first
      | (rw [if_pos c23]; refine ⟨rfl, ?_, ((o1.tr o2).tr o3).tr o4⟩; simp only [List.append_assoc, List.nil_append] at w4 ⊢; exact w4)
      | (rw [if_neg (by omega)]; refine ⟨rfl, ?_, (((o1.tr o2).tr o3).tr o4).tr o5⟩; simp only [List.append_assoc] at w5 ⊢; exact w5)
  · have c23 : 0 < t := Nat.pos_of_ne_zero (fun z => c23 (by rw [z]; decide))
    refine w_aload_n d_PW_writeString_26 rfl rfl ?_
    refine w_iload d_PW_writeString_27 rfl ?_
    refine w_topi (y := nI (t - 1)) (pk_sub c23) ?_
    refine w_callV (as := [.int (nI (t - 1))]) (st := []) d_PW_writeString_29 yM_PW_writeCode l_PW_54 vM_PW_writeCode kp3 rfl rfl rfl rfl (m_PW_writeCode w3 (by omega)) (by decide) (by decide) (by decide) (by decide) (Nat.le_of_ble_eq_true rfl) ?_
    rintro _ h4 ⟨rfl, w4, o4⟩
    refine w_eq (st' := []) rfl ?_
    have kp4 := w4.1
    refine w_iinc (v := nI 3) d_PW_writeString_32 rfl (by decide) (by decide) ?_
    refine w_pl (pl' := [some (.ref p), some (.long (lN (kOf a b t))), none, some (.int (nI 3)), some (.int (nI t - nI 1))]) rfl ?_
    refine w_goto (tgt := 8) d_PW_writeString_35 rfl ?_
    refine w_iload_n d_PW_writeString_8 rfl ?_
    refine w_iconst (v := nI 3) d_PW_writeString_9 (by decide) ?_
    refine w_icmp_ge (tgt := 38) d_PW_writeString_10 rfl (fun _ => ?_) (fun z => absurd (by decide) z)
    refine w_aload_n d_PW_writeString_38 rfl rfl ?_
    refine w_bipush (v := nI 125) d_PW_writeString_39 (by decide) ?_
    refine w_callV (as := [.int (nI 125)]) (st := []) d_PW_writeString_41 yM_PW_put l_PW_25 vM_PW_put kp4 rfl rfl rfl rfl (m_PW_put w4) (by decide) (by decide) (by decide) (by decide) (Nat.le_of_ble_eq_true rfl) ?_
    rintro _ h5 ⟨rfl, w5, o5⟩
    refine w_eq (st' := []) rfl ?_
    have kp5 := w5.1
    rw [← hEN]
    refine w_vret d_PW_writeString_44 rfl ?_
    unfold sT
    rw [q1, q2, q3]
    first
      | (rw [if_pos c23]; refine ⟨rfl, ?_, ((o1.tr o2).tr o3).tr o4⟩; simp only [List.append_assoc, List.nil_append] at w4 ⊢; exact w4)
      | (rw [if_neg (by omega)]; refine ⟨rfl, ?_, (((o1.tr o2).tr o3).tr o4).tr o5⟩; simp only [List.append_assoc] at w5 ⊢; exact w5)
end PW
