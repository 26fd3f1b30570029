/-! PatternReader, fourth part: written by wip/gen/pr4.py -/
theorem rStep_0 {tk : List (Nat × Int32)} {B : Nat → Br} {d nx : Nat} (h : kd tk nx = 0) (hd : d ≠ 0) : rStep tk B d nx = none := by
  unfold rStep
  rw [if_neg (fun z => hd z.1)]
  simp only [h]
theorem rStep_1 {tk : List (Nat × Int32)} {B : Nat → Br} {d nx : Nat} (h : kd tk nx = 1) (hd : d ≠ 0) : rStep tk B d nx = rChar tk B d nx := by
  unfold rStep
  rw [if_neg (fun z => hd z.1)]
  simp only [h]
theorem rStep_2 {tk : List (Nat × Int32)} {B : Nat → Br} {d nx : Nat} (h : kd tk nx = 2) : rStep tk B d nx = rProp tk B d nx false := by
  unfold rStep
  rw [if_neg (fun z => z.2 (by rw [h]; decide))]
  simp only [h]
theorem rStep_3 {tk : List (Nat × Int32)} {B : Nat → Br} {d nx : Nat} (h : kd tk nx = 3) : rStep tk B d nx = rProp tk B d nx true := by
  unfold rStep
  rw [if_neg (fun z => z.2 (by rw [h]; decide))]
  simp only [h]
theorem rStep_4 {tk : List (Nat × Int32)} {B : Nat → Br} {d nx : Nat} (h : kd tk nx = 4) : rStep tk B d nx = rOpen B d nx false := by
  unfold rStep
  rw [if_neg (fun z => z.2 (by rw [h]; decide))]
  simp only [h]
theorem rStep_5 {tk : List (Nat × Int32)} {B : Nat → Br} {d nx : Nat} (h : kd tk nx = 5) : rStep tk B d nx = rOpen B d nx true := by
  unfold rStep
  rw [if_neg (fun z => z.2 (by rw [h]; decide))]
  simp only [h]
theorem rStep_6 {tk : List (Nat × Int32)} {B : Nat → Br} {d nx : Nat} (h : kd tk nx = 6) (hd : d ≠ 0) : rStep tk B d nx = rEnd B d nx := by
  unfold rStep
  rw [if_neg (fun z => hd z.1)]
  simp only [h]
theorem rStep_7 {tk : List (Nat × Int32)} {B : Nat → Br} {d nx : Nat} (h : kd tk nx = 7) (hd : d ≠ 0) : rStep tk B d nx = rStr tk B d nx := by
  unfold rStep
  rw [if_neg (fun z => hd z.1)]
  simp only [h]
theorem rStep_8 {tk : List (Nat × Int32)} {B : Nat → Br} {d nx : Nat} (h : kd tk nx = 8) (hd : d ≠ 0) : rStep tk B d nx = none := by
  unfold rStep
  rw [if_neg (fun z => hd z.1)]
  simp only [h]
theorem rStep_9 {tk : List (Nat × Int32)} {B : Nat → Br} {d nx : Nat} (h : kd tk nx = 9) (hd : d ≠ 0) : rStep tk B d nx = rHyp tk B d nx := by
  unfold rStep
  rw [if_neg (fun z => hd z.1)]
  simp only [h]
theorem rStep_10 {tk : List (Nat × Int32)} {B : Nat → Br} {d nx : Nat} (h : kd tk nx = 10) (hd : d ≠ 0) : rStep tk B d nx = rSign tk B d nx 1 := by
  unfold rStep
  rw [if_neg (fun z => hd z.1)]
  simp only [h]
theorem rStep_no {tk : List (Nat × Int32)} {B : Nat → Br} {nx : Nat} (h : ¬ (kd tk nx = 4 ∨ kd tk nx = 5 ∨ kd tk nx = 2 ∨ kd tk nx = 3)) : rStep tk B 0 nx = none := by
  unfold rStep
  rw [if_pos ⟨rfl, h⟩]
def eTot (B : Nat → Br) : Nat → Nat
  | 0 => 0
  | k + 1 => eTot B k + (B k).1.1.length + (if (B k).2.1 = true then 2 else 0)
theorem eTot_up (B : Nat → Br) (k : Nat) (β : Br) : ∀ j, j ≤ k → eTot (bUp B k β) j = eTot B j
  | 0, _ => rfl
  | j + 1, h => by
    unfold eTot
    rw [eTot_up B k β j (by omega), bUp_ne _ _ (by omega)]
theorem eTot_up1 (B : Nat → Br) (k : Nat) (β : Br) : eTot (bUp B k β) (k + 1) = eTot B k + β.1.1.length + (if β.2.1 = true then 2 else 0) := by
  show eTot (bUp B k β) k + (bUp B k β k).1.1.length + (if (bUp B k β k).2.1 = true then 2 else 0) = _
  rw [eTot_up _ _ _ _ (Nat.le_refl _), bUp_at]
theorem eTot_le (B : Nat → Br) : ∀ (d k : Nat), k < d → (B k).1.1.length ≤ eTot B d
  | 0, k, h => by omega
  | d + 1, k, h => by
    unfold eTot
    by_cases hk : k = d
    · subst hk; omega
    · have := eTot_le B d k (by omega)
      omega
def wt (q : Nat × Int32) : Nat := if q.1 = 1 ∨ q.1 = 9 ∨ q.1 = 5 then 2 else if q.1 = 2 then (rTab q.2).length else if q.1 = 3 then (rTab q.2).length + 2 else 0
def wtR (tk : List (Nat × Int32)) (nx : Nat) : Nat := ((tk.drop nx).map wt).sum
theorem wtR_at {tk : List (Nat × Int32)} {nx : Nat} {q : Nat × Int32} (h : tk[nx]? = some q) : wtR tk nx = wt q + wtR tk (nx + 1) := by
  obtain ⟨h1, h2⟩ := List.getElem?_eq_some_iff.mp h
  unfold wtR
  rw [List.drop_eq_getElem_cons h1, h2, List.map_cons, List.sum_cons]
theorem wtR_1 (tk : List (Nat × Int32)) (nx : Nat) : wtR tk (nx + 1) ≤ wtR tk nx := by
  cases h : tk[nx]? with
  | none => unfold wtR; rw [List.drop_of_length_le (by have := List.getElem?_eq_none_iff.mp h; omega)]; exact Nat.zero_le _
  | some q => rw [wtR_at h]; omega
theorem wtR_le (tk : List (Nat × Int32)) (nx : Nat) : ∀ j, wtR tk (nx + j) ≤ wtR tk nx
  | 0 => Nat.le_refl _
  | j + 1 => Nat.le_trans (wtR_1 tk (nx + j)) (wtR_le tk nx j)
theorem kd_some {tk : List (Nat × Int32)} {i : Nat} (h : kd tk i ≠ 0) : ∃ q, tk[i]? = some q ∧ q.1 = kd tk i ∧ q.2 = vl tk i ∧ i < tk.length := by
  unfold kd at h ⊢
  unfold vl
  cases hq : tk[i]? with
  | none => rw [hq] at h; exact absurd rfl h
  | some q => exact ⟨q, rfl, rfl, rfl, (List.getElem?_eq_some_iff.mp hq).1⟩
theorem wtR_c {tk : List (Nat × Int32)} {nx : Nat} (h : kd tk nx = 1 ∨ kd tk nx = 9 ∨ kd tk nx = 5) : wtR tk nx = 2 + wtR tk (nx + 1) ∧ nx < tk.length := by
  obtain ⟨q, h1, h2, h3, h4⟩ := kd_some (tk := tk) (i := nx) (by omega)
  rw [wtR_at h1]
  unfold wt
  rw [if_pos (by omega)]
  exact ⟨rfl, h4⟩
def rInv (tk : List (Nat × Int32)) (B : Nat → Br) (d nx : Nat) : Prop := d ≤ 5 ∧ (∀ k, k < d → iOk (B k).1 ∧ (B k).2.2.2.2 ≤ 3 ∧ (B k).2.2.1 ≤ nx) ∧ eTot B d + wtR tk nx ≤ 120 ∧ nx ≤ tk.length
theorem rInv.bk {tk : List (Nat × Int32)} {B : Nat → Br} {d nx : Nat} (h : rInv tk B d nx) (h60 : tk.length ≤ 60) : bOk B d := by
  obtain ⟨h1, h2, h3, h4⟩ := h
  refine ⟨h1, fun k hk => ?_⟩
  have := eTot_le B d k hk
  have q := h2 k hk
  exact ⟨q.1, q.2.1, by omega, by omega⟩
/-- what a step's end keeps to -/
def rEk (tk : List (Nat × Int32)) (nx : Nat) (x : Option rS) : Prop := ∀ B' d' nx' V, x = some (B', d', nx', V) → rInv tk B' d' nx' ∧ nx < nx' ∧ (d' = 0 → iOk V ∧ V.1.length ≤ 120)
theorem rEk_none (tk : List (Nat × Int32)) (nx : Nat) : rEk tk nx none := fun _ _ _ _ h => by cases h
theorem iOk_mg {how : Nat} {I J : List Nat × List Nat} (hI : iOk I) (hJ : iOk J) (h8 : (sCmb how I.2 J.2).length ≤ 8) : iOk (eCmb how I.1 J.1, sCmb how I.2 J.2) := by
  refine ⟨eCmb_ok _ _ _, sCmb_asc _ _ _, fun y hy => ?_, h8⟩
  have h := sCmb_mem.mp hy
  by_cases h1 : y ∈ I.2
  · exact hI.2.2.1 y h1
  by_cases h2 : y ∈ J.2
  · exact hJ.2.2.1 y h2
  rw [decide_eq_false h1, decide_eq_false h2, eDec_ff] at h
  cases h
theorem rEk_join {tk : List (Nat × Int32)} {B : Nat → Br} {d nx nx' : Nat} {I : List Nat × List Nat} {z : Bool} (h : rInv tk B d nx) (hI : iOk I) (h1 : nx < nx') (h2 : nx' ≤ tk.length) (h3 : eTot B d + I.1.length + wtR tk nx' ≤ 120) : rEk tk nx (rJoin B d nx' I z) := by
  intro B' d' nx2 V hx
  obtain ⟨q1, q2, q3, q4⟩ := h
  cases d with
  | zero =>
    cases hx
    exact ⟨⟨q1, fun k hk => by omega, by omega, h2⟩, h1, fun _ => ⟨hI, by omega⟩⟩
  | succ k =>
    rw [rJoin_S] at hx
    split at hx
    · rename_i h8
      cases hx
      have qk := q2 k (by omega)
      refine ⟨⟨q1, fun j hj => ?_, ?_, h2⟩, h1, fun z9 => by omega⟩
      · by_cases hjk : j = k
        · subst hjk
          rw [bUp_at]
          exact ⟨iOk_mg qk.1 hI h8, Nat.zero_le _, by show (B j).2.2.1 + 1 ≤ nx'; omega⟩
        · rw [bUp_ne _ _ hjk]
          have := q2 j (by omega)
          exact ⟨this.1, this.2.1, by omega⟩
      · rw [eTot_up1]
        have := eCmb_len (B k).2.2.2.2 (B k).1.1 I.1
        have e1 : eTot B (k + 1) = eTot B k + (B k).1.1.length + (if (B k).2.1 = true then 2 else 0) := rfl
        dsimp only
        omega
    · cases hx
theorem rEk_step {tk : List (Nat × Int32)} {B : Nat → Br} {d nx : Nat} (hk : tkOk tk) (h : rInv tk B d nx) : rEk tk nx (rStep tk B d nx) := by
  by_cases hno : d = 0 ∧ ¬ (kd tk nx = 4 ∨ kd tk nx = 5 ∨ kd tk nx = 2 ∨ kd tk nx = 3)
  · obtain ⟨rfl, hno⟩ := hno
    rw [rStep_no hno]
    exact rEk_none _ _
  have hlt := h.2.2.2
  have h120 := h.2.2.1
  have hsgn : ∀ w, w ≤ 3 → ∀ k, d = k + 1 → kd tk nx ≠ 0 → rEk tk nx (rSign tk B (k + 1) nx w) := by
    intro w hw k hd hk0
    subst hd
    obtain ⟨q, t1, t2, t3, t4⟩ := kd_some hk0
    have hw1 := wtR_1 tk nx
    unfold rSign
    dsimp only
    split
    · rename_i hc
      intro B' d' nx2 V hx
      cases hx
      refine ⟨⟨h.1, fun j hj => ?_, ?_, by omega⟩, by omega, fun z => by omega⟩
      · by_cases hjk : j = k
        · subst hjk
          rw [bUp_at]
          have := h.2.1 j hj
          exact ⟨this.1, hw, by show (B j).2.2.1 ≤ nx + 1; omega⟩
        · rw [bUp_ne _ _ hjk]
          have := h.2.1 j hj
          exact ⟨this.1, this.2.1, by omega⟩
      · rw [eTot_up1]
        have e1 : eTot B (k + 1) = eTot B k + (B k).1.1.length + (if (B k).2.1 = true then 2 else 0) := rfl
        dsimp only
        omega
    · exact rEk_none _ _
  have hopn : ∀ o : Bool, (o = true → kd tk nx = 5) → kd tk nx ≠ 0 → rEk tk nx (rOpen B d nx o) := by
    intro o ho hk0
    obtain ⟨q, t1, t2, t3, t4⟩ := kd_some hk0
    have hw1 := wtR_1 tk nx
    unfold rOpen
    split
    · rename_i hc
      intro B' d' nx2 V hx
      cases hx
      refine ⟨⟨by omega, fun j hj => ?_, ?_, by omega⟩, by omega, fun z => by omega⟩
      · by_cases hjk : j = d
        · subst hjk
          rw [bUp_at]
          exact ⟨⟨⟨List.Pairwise.nil, fun x hx => by cases hx⟩, List.Pairwise.nil, fun y hy => (by cases hy), Nat.zero_le _⟩, Nat.zero_le _, Nat.zero_le _⟩
        · rw [bUp_ne _ _ hjk]
          have := h.2.1 j (by omega)
          exact ⟨this.1, this.2.1, by omega⟩
      · rw [eTot_up1]
        dsimp only [List.length_nil]
        cases o with
        | false => simp only [Bool.false_eq_true, if_false]; omega
        | true =>
          have := (wtR_c (Or.inr (Or.inr (ho rfl)))).1
          simp only [if_true]
          omega
    · exact rEk_none _ _
  have hprp : ∀ o : Bool, (kd tk nx = if o = true then 3 else 2) → rEk tk nx (rProp tk B d nx o) := by
    intro o ho
    obtain ⟨q, t1, t2, t3, t4⟩ := kd_some (tk := tk) (i := nx) (by rw [ho]; cases o <;> decide)
    obtain ⟨n, hn, hv⟩ := kd_pr hk (i := nx) (by rw [ho]; cases o <;> decide)
    have hw := wtR_at t1
    have tn := iOk_tab hn
    have q1 : ¬ (q.1 = 1 ∨ q.1 = 9 ∨ q.1 = 5) := by rw [t2, ho]; cases o <;> decide
    unfold wt at hw
    rw [if_neg q1, t3, hv] at hw
    unfold rProp
    rw [hv]
    cases o with
    | false =>
      have q2 : q.1 = 2 := by rw [t2, ho]; rfl
      rw [if_pos q2] at hw
      refine rEk_join h tn.1 (by omega) (by omega) ?_
      show eTot B d + (rTab (nI n)).length + _ ≤ _
      omega
    | true =>
      have q2 : q.1 = 3 := by rw [t2, ho]; rfl
      rw [if_neg (by omega), if_pos q2] at hw
      refine rEk_join h iOk_cmb (by omega) (by omega) ?_
      have := eCmb_len 3 (rTab (nI n)) [0, 1114112]
      simp only [List.length_cons, List.length_nil] at this
      show eTot B d + (eCmb 3 (rTab (nI n)) [0, 1114112]).length + _ ≤ _
      omega
  have ran2 : ∀ a b : Nat, (rRan a b).1.length = 2 := fun _ _ => rfl
  rcases (by have := kd_le hk nx; omega : kd tk nx = 0 ∨ kd tk nx = 1 ∨ kd tk nx = 2 ∨ kd tk nx = 3 ∨ kd tk nx = 4 ∨ kd tk nx = 5 ∨ kd tk nx = 6 ∨ kd tk nx = 7 ∨ kd tk nx = 8 ∨ kd tk nx = 9 ∨ kd tk nx = 10) with e | e | e | e | e | e | e | e | e | e | e
  · rw [rStep_0 e (fun z => hno ⟨z, by omega⟩)]
    exact rEk_none _ _
  · rw [rStep_1 e (fun z => hno ⟨z, by omega⟩)]
    obtain ⟨w1, w2⟩ := wtR_c (Or.inl e)
    obtain ⟨a, ha, hva⟩ := kd_ch hk e
    unfold rChar
    split
    · rw [hva, nV_nI ha]
      exact rEk_join h (iOk_ran (Nat.le_refl _) ha) (by omega) (by omega) (by rw [ran2]; omega)
    · rename_i hc
      split
      · exact rEk_none _ _
      · rename_i hc2
        have e2 : kd tk (nx + 2) = 1 := Decidable.byContradiction fun z => hc2 (Or.inl z)
        obtain ⟨b, hb, hvb⟩ := kd_ch hk e2
        have hle : ¬ nV (vl tk (nx + 2)) < nV (vl tk nx) := fun z => hc2 (Or.inr z)
        rw [hva, hvb, nV_nI ha, nV_nI hb] at hle ⊢
        have w3 := wtR_c (Or.inl e2)
        have w4 := wtR_le tk (nx + 1) 1
        rw [show nx + 2 + 1 = nx + 3 from rfl] at w3
        rw [show nx + 1 + 1 = nx + 2 from rfl] at w4
        exact rEk_join h (iOk_ran (by omega) hb) (by omega) (by omega) (by rw [ran2]; omega)
  · rw [rStep_2 e]
    exact hprp false e
  · rw [rStep_3 e]
    exact hprp true e
  · rw [rStep_4 e]
    exact hopn false (fun z => by cases z) (by omega)
  · rw [rStep_5 e]
    exact hopn true (fun _ => e) (by omega)
  · have hd : d ≠ 0 := fun z => hno ⟨z, by omega⟩
    rw [rStep_6 e hd]
    obtain ⟨k, rfl⟩ : ∃ k, d = k + 1 := ⟨d - 1, by omega⟩
    obtain ⟨q, t1, t2, t3, t4⟩ := kd_some (tk := tk) (i := nx) (by omega)
    have hw1 := wtR_1 tk nx
    have e1 : eTot B (k + 1) = eTot B k + (B k).1.1.length + (if (B k).2.1 = true then 2 else 0) := rfl
    have hk1 : rInv tk B k nx := ⟨by have := h.1; omega, fun j hj => h.2.1 j (by omega), by omega, hlt⟩
    unfold rEnd
    dsimp only
    split
    · rename_i ho
      rw [if_pos ho] at e1
      split
      · have hk2 : rInv tk (bUp B k ((eCmb 3 (B k).1.1 [0, 1114112], []), (B k).2)) k nx := ⟨hk1.1, fun j hj => by rw [bUp_ne _ _ (by omega)]; exact hk1.2.1 j hj, by rw [eTot_up _ _ _ _ (Nat.le_refl _)]; exact hk1.2.2.1, hlt⟩
        have := eCmb_len 3 (B k).1.1 [0, 1114112]
        simp only [List.length_cons, List.length_nil] at this
        exact rEk_join hk2 iOk_cmb (by omega) (by omega) (by rw [eTot_up _ _ _ _ (Nat.le_refl _)]; dsimp only; omega)
      · exact rEk_none _ _
    · rename_i ho
      rw [if_neg ho] at e1
      exact rEk_join hk1 (h.2.1 k (by omega)).1 (by omega) (by omega) (by omega)
  · rw [rStep_7 e (fun z => hno ⟨z, by omega⟩)]
    have w1 := wtR_1 tk nx
    unfold rStr
    split
    · exact rEk_none _ _
    · rename_i hc
      have hw0 : ¬ rWid tk nx = 0 := fun z => hc (Or.inl z)
      have h8 : kd tk (nx + rWid tk nx + 1) = 8 := Decidable.byContradiction fun z => hc (Or.inr z)
      obtain ⟨q, t1, t2, t3, t4⟩ := kd_some (tk := tk) (i := nx + rWid tk nx + 1) (by omega)
      have hr : (rWid tk nx = 1 ∧ kd tk (nx + 1) = 1) ∨ (rWid tk nx = 2 ∧ kd tk (nx + 1) = 1 ∧ kd tk (nx + 2) = 1) ∨ (rWid tk nx = 3 ∧ kd tk (nx + 1) = 1 ∧ kd tk (nx + 2) = 1 ∧ kd tk (nx + 3) = 1) := by
        unfold rWid at hw0 ⊢
        split
        · rename_i k1
          split
          · rename_i k2
            split
            · rename_i k3
              exact Or.inr (Or.inr ⟨rfl, k1, k2, k3⟩)
            · exact Or.inr (Or.inl ⟨rfl, k1, k2⟩)
          · exact Or.inl ⟨rfl, k1⟩
        · rename_i k1
          rw [if_neg k1] at hw0
          exact absurd rfl hw0
      rcases hr with ⟨hw, k1⟩ | ⟨hw, k1, k2⟩ | ⟨hw, k1, k2, k3⟩
      · rw [if_pos hw]
        obtain ⟨a, ha, hva⟩ := kd_ch hk k1
        rw [hva, nV_nI ha]
        have w2 := wtR_c (Or.inl k1)
        have w3 := wtR_le tk (nx + 1 + 1) 1
        rw [show nx + 1 + 1 + 1 = nx + 3 from rfl] at w3
        exact rEk_join h (iOk_ran (Nat.le_refl _) ha) (by omega) (by omega) (by rw [ran2]; omega)
      · rw [if_neg (by omega), hw]
        obtain ⟨a, ha, hva⟩ := kd_ch hk k1
        obtain ⟨b, hb, hvb⟩ := kd_ch hk k2
        rw [hva, hvb, nV_nI ha, nV_nI hb, if_neg (by decide)]
        have w3 := wtR_le tk nx (2 + 2)
        exact rEk_join h (iOk_key ⟨a, b, 0, ha, hb, by omega, rfl⟩) (by omega) (by omega) (by show eTot B d + 0 + _ ≤ _; omega)
      · rw [if_neg (by omega), hw]
        obtain ⟨a, ha, hva⟩ := kd_ch hk k1
        obtain ⟨b, hb, hvb⟩ := kd_ch hk k2
        obtain ⟨c, hc9, hvc⟩ := kd_ch hk k3
        rw [hva, hvb, hvc, nV_nI ha, nV_nI hb, nV_nI hc9, if_pos rfl]
        have w3 := wtR_le tk nx (3 + 2)
        exact rEk_join h (iOk_key ⟨a, b, c + 1, ha, hb, by omega, rfl⟩) (by omega) (by omega) (by show eTot B d + 0 + _ ≤ _; omega)
  · rw [rStep_8 e (fun z => hno ⟨z, by omega⟩)]
    exact rEk_none _ _
  · have hd : d ≠ 0 := fun z => hno ⟨z, by omega⟩
    rw [rStep_9 e hd]
    obtain ⟨k, rfl⟩ : ∃ k, d = k + 1 := ⟨d - 1, by omega⟩
    obtain ⟨w1, w2⟩ := wtR_c (Or.inr (Or.inl e))
    unfold rHyp
    dsimp only
    split
    · exact rEk_join h (iOk_ran (Nat.le_refl _) (by decide)) (by omega) (by omega) (by rw [ran2]; omega)
    · exact hsgn 2 (by decide) k rfl (by omega)
  · have hd : d ≠ 0 := fun z => hno ⟨z, by omega⟩
    rw [rStep_10 e hd]
    obtain ⟨k, rfl⟩ : ∃ k, d = k + 1 := ⟨d - 1, by omega⟩
    exact hsgn 1 (by decide) k rfl (by omega)
section PR4
variable {X : wX}
set_option maxHeartbeats 4000000 in
set_option maxRecDepth 100000 in
theorem m_PR_part_1 (hT : xTab X) {h : wH} {tk : List (Nat × Int32)} {B : Nat → Br} {nx o s v k : Nat} {b : Nat → Nat} (hq : hPR h tk B (k + 1) nx o s v b) (hb : bOk B (k + 1)) (hnx : nx < 2 ^ 20) (hkd : tkOk tk) (hc : kd tk nx = 1) : PM X M_PR_readPart 5 0 0 [.ref 13] h (rQ (rStep tk B (k + 1) nx) h tk) := by
  have hq0 := hq; obtain ⟨hp, ⟨t, l, pos, htr⟩, ⟨f, har, hfr⟩, hbr, ⟨E1, S1, hop⟩, ⟨E2, S2, hsp⟩, po, ps, pb, pos1, pbo, pbb⟩ := hq
  have trp := htr.choose_spec.choose_spec.1; have hl60 : tk.length ≤ 60 := htr.choose_spec.choose_spec.2.2.2.2.2.1
  have hb5 := hb.1
  refine PM.at (pl := [some (.ref 13), none]) rfl rfl (by simp [wle, wen]) ?_
  generalize hEN : wEm X 0 0 _ = EN
  refine w_aload_n d_PR_readPart_0 rfl rfl ?_
  refine w_get d_PR_readPart_1 f_PR_12 hp rfl ?_
  refine w_aload_n d_PR_readPart_4 rfl rfl ?_
  refine w_get d_PR_readPart_5 f_PR_42 hp rfl ?_
  refine w_callV (as := [.int (nI nx)]) (st := []) d_PR_readPart_8 yM_TR_kindAt l_PR_52 vM_TR_kindAt trp rfl rfl rfl rfl (m_TR_kindAt htr (by omega)) (by decide) (by decide) (by decide) (by decide) (Nat.le_of_ble_eq_true rfl) ?_
  rintro _ h9_1 ⟨rfl, e9_1⟩
  rw [e9_1]
  refine w_eq (st' := [.int (nI (kd tk nx))]) rfl ?_
  refine w_topi (y := nI 1) (congrArg nI hc) ?_
  refine w_istore_n d_PR_readPart_11 (by decide) ?_
  refine w_pl (pl' := [some (.ref 13), some (.int (nI 1))]) rfl ?_
  refine w_aload_n d_PR_readPart_12 rfl rfl ?_
  refine w_get d_PR_readPart_13 f_PR_38 hp rfl ?_
  refine w_if_ne (tgt := 35) d_PR_readPart_16 rfl (fun _ => ?_) (fun z => absurd z (nI_ne0 (by omega) (by omega)))
  refine w_iload_n d_PR_readPart_35 rfl ?_
  refine w_tableIn (off := 96) (tgt := 132) d_PR_readPart_36 (by decide) (by decide) (by decide) (by decide) ?_
  refine w_aload_n d_PR_readPart_132 rfl rfl ?_
  refine w_callV (as := []) (st := []) d_PR_readPart_133 yM_PR_readChar l_PR_73 vM_PR_readChar hp rfl rfl rfl rfl (m_PR_char hq0 hb hnx hkd hc) (by decide) (by decide) (by decide) (by decide) (Nat.le_of_ble_eq_true rfl) ?_
  rintro _ h9 ⟨ho9, rfl, hr9⟩
  refine w_eq (st' := [.int (bI (rChar tk B (k + 1) nx).isSome)]) rfl ?_
  rw [← hEN]
  refine w_zret d_PR_readPart_136 rfl (bI_01 _) ?_
  rw [rStep_1 hc (Nat.succ_ne_zero k)]
  exact ⟨ho9, rfl, hr9⟩
set_option maxHeartbeats 4000000 in
set_option maxRecDepth 100000 in
theorem m_PR_part_2 (hT : xTab X) {h : wH} {tk : List (Nat × Int32)} {B : Nat → Br} {nx o s v d : Nat} {b : Nat → Nat} (hq : hPR h tk B d nx o s v b) (hb : bOk B d) (hnx : nx < 2 ^ 20) (hkd : tkOk tk) (hc : kd tk nx = 2) : PM X M_PR_readPart 5 0 0 [.ref 13] h (rQ (rStep tk B d nx) h tk) := by
  have hq0 := hq; obtain ⟨hp, ⟨t, l, pos, htr⟩, ⟨f, har, hfr⟩, hbr, ⟨E1, S1, hop⟩, ⟨E2, S2, hsp⟩, po, ps, pb, pos1, pbo, pbb⟩ := hq
  have trp := htr.choose_spec.choose_spec.1; have hl60 : tk.length ≤ 60 := htr.choose_spec.choose_spec.2.2.2.2.2.1
  have hb5 := hb.1
  obtain ⟨n9, hn9, hv9⟩ := kd_pr hkd (i := nx) (by omega)
  refine PM.at (pl := [some (.ref 13), none]) rfl rfl (by simp [wle, wen]) ?_
  generalize hEN : wEm X 0 0 _ = EN
  refine w_aload_n d_PR_readPart_0 rfl rfl ?_
  refine w_get d_PR_readPart_1 f_PR_12 hp rfl ?_
  refine w_aload_n d_PR_readPart_4 rfl rfl ?_
  refine w_get d_PR_readPart_5 f_PR_42 hp rfl ?_
  refine w_callV (as := [.int (nI nx)]) (st := []) d_PR_readPart_8 yM_TR_kindAt l_PR_52 vM_TR_kindAt trp rfl rfl rfl rfl (m_TR_kindAt htr (by omega)) (by decide) (by decide) (by decide) (by decide) (Nat.le_of_ble_eq_true rfl) ?_
  rintro _ h9_1 ⟨rfl, e9_1⟩
  rw [e9_1]
  refine w_eq (st' := [.int (nI (kd tk nx))]) rfl ?_
  refine w_topi (y := nI 2) (congrArg nI hc) ?_
  refine w_istore_n d_PR_readPart_11 (by decide) ?_
  refine w_pl (pl' := [some (.ref 13), some (.int (nI 2))]) rfl ?_
  refine w_aload_n d_PR_readPart_12 rfl rfl ?_
  refine w_get d_PR_readPart_13 f_PR_38 hp rfl ?_
  refine w_if_ne (tgt := 35) d_PR_readPart_16 rfl (fun c16 => ?_) (fun c16 => ?_)
  · refine w_iload_n d_PR_readPart_35 rfl ?_
    refine w_tableIn (off := 76) (tgt := 112) d_PR_readPart_36 (by decide) (by decide) (by decide) (by decide) ?_
    refine w_aload_n d_PR_readPart_112 rfl rfl ?_
    refine w_iload_n d_PR_readPart_113 rfl ?_
    refine w_iconst (v := nI 3) d_PR_readPart_114 (by decide) ?_
    refine w_icmp_ne (tgt := 122) d_PR_readPart_115 rfl (fun _ => ?_) (fun z => absurd z (by decide))
    refine w_iconst (v := nI 0) d_PR_readPart_122 (by decide) ?_
    refine w_callV (as := [.int (nI 0)]) (st := []) d_PR_readPart_123 yM_PR_readProperty l_PR_67 vM_PR_readProperty hp rfl rfl rfl rfl (m_PR_prop0 hT hq0 hb hnx hn9 hv9) (by decide) (by decide) (by decide) (by decide) (Nat.le_of_ble_eq_true rfl) ?_
    rintro _ h9 ⟨ho9, rfl, hr9⟩
    refine w_eq (st' := [.int (bI (rProp tk B d nx false).isSome)]) rfl ?_
    rw [← hEN]
    refine w_zret d_PR_readPart_126 rfl (bI_01 _) ?_
    rw [rStep_2 hc]
    exact ⟨ho9, rfl, hr9⟩
  · refine w_aload_n d_PR_readPart_19 rfl rfl ?_
    refine w_get d_PR_readPart_20 f_PR_12 hp rfl ?_
    refine w_aload_n d_PR_readPart_23 rfl rfl ?_
    refine w_get d_PR_readPart_24 f_PR_42 hp rfl ?_
    refine w_callV (as := [.int (nI nx)]) (st := []) d_PR_readPart_27 yM_TR_beginsSet l_PR_56 vM_TR_beginsSet trp rfl rfl rfl rfl (m_TR_beginsSet htr (by omega) (by omega)) (by decide) (by decide) (by decide) (by decide) (Nat.le_of_ble_eq_true rfl) ?_
    rintro _ h9_2 ⟨rfl, e9_2⟩
    rw [e9_2]
    refine w_eq (st' := [.int (bI (decide (kd tk nx = 4 ∨ kd tk nx = 5 ∨ kd tk nx = 2 ∨ kd tk nx = 3)))]) rfl ?_
    refine w_topi (y := nI 1) (congrArg bI (decide_eq_true (by rw [hc]; decide))) ?_
    refine w_if_ne (tgt := 35) d_PR_readPart_30 rfl (fun _ => ?_) (fun z => absurd z (by decide))
    refine w_iload_n d_PR_readPart_35 rfl ?_
    refine w_tableIn (off := 76) (tgt := 112) d_PR_readPart_36 (by decide) (by decide) (by decide) (by decide) ?_
    refine w_aload_n d_PR_readPart_112 rfl rfl ?_
    refine w_iload_n d_PR_readPart_113 rfl ?_
    refine w_iconst (v := nI 3) d_PR_readPart_114 (by decide) ?_
    refine w_icmp_ne (tgt := 122) d_PR_readPart_115 rfl (fun _ => ?_) (fun z => absurd z (by decide))
    refine w_iconst (v := nI 0) d_PR_readPart_122 (by decide) ?_
    refine w_callV (as := [.int (nI 0)]) (st := []) d_PR_readPart_123 yM_PR_readProperty l_PR_67 vM_PR_readProperty hp rfl rfl rfl rfl (m_PR_prop0 hT hq0 hb hnx hn9 hv9) (by decide) (by decide) (by decide) (by decide) (Nat.le_of_ble_eq_true rfl) ?_
    rintro _ h9 ⟨ho9, rfl, hr9⟩
    refine w_eq (st' := [.int (bI (rProp tk B d nx false).isSome)]) rfl ?_
    rw [← hEN]
    refine w_zret d_PR_readPart_126 rfl (bI_01 _) ?_
    rw [rStep_2 hc]
    exact ⟨ho9, rfl, hr9⟩
set_option maxHeartbeats 4000000 in
set_option maxRecDepth 100000 in
theorem m_PR_part_3 (hT : xTab X) {h : wH} {tk : List (Nat × Int32)} {B : Nat → Br} {nx o s v d : Nat} {b : Nat → Nat} (hq : hPR h tk B d nx o s v b) (hb : bOk B d) (hnx : nx < 2 ^ 20) (hkd : tkOk tk) (hc : kd tk nx = 3) : PM X M_PR_readPart 5 0 0 [.ref 13] h (rQ (rStep tk B d nx) h tk) := by
  have hq0 := hq; obtain ⟨hp, ⟨t, l, pos, htr⟩, ⟨f, har, hfr⟩, hbr, ⟨E1, S1, hop⟩, ⟨E2, S2, hsp⟩, po, ps, pb, pos1, pbo, pbb⟩ := hq
  have trp := htr.choose_spec.choose_spec.1; have hl60 : tk.length ≤ 60 := htr.choose_spec.choose_spec.2.2.2.2.2.1
  have hb5 := hb.1
  obtain ⟨n9, hn9, hv9⟩ := kd_pr hkd (i := nx) (by omega)
  refine PM.at (pl := [some (.ref 13), none]) rfl rfl (by simp [wle, wen]) ?_
  generalize hEN : wEm X 0 0 _ = EN
  refine w_aload_n d_PR_readPart_0 rfl rfl ?_
  refine w_get d_PR_readPart_1 f_PR_12 hp rfl ?_
  refine w_aload_n d_PR_readPart_4 rfl rfl ?_
  refine w_get d_PR_readPart_5 f_PR_42 hp rfl ?_
  refine w_callV (as := [.int (nI nx)]) (st := []) d_PR_readPart_8 yM_TR_kindAt l_PR_52 vM_TR_kindAt trp rfl rfl rfl rfl (m_TR_kindAt htr (by omega)) (by decide) (by decide) (by decide) (by decide) (Nat.le_of_ble_eq_true rfl) ?_
  rintro _ h9_1 ⟨rfl, e9_1⟩
  rw [e9_1]
  refine w_eq (st' := [.int (nI (kd tk nx))]) rfl ?_
  refine w_topi (y := nI 3) (congrArg nI hc) ?_
  refine w_istore_n d_PR_readPart_11 (by decide) ?_
  refine w_pl (pl' := [some (.ref 13), some (.int (nI 3))]) rfl ?_
  refine w_aload_n d_PR_readPart_12 rfl rfl ?_
  refine w_get d_PR_readPart_13 f_PR_38 hp rfl ?_
  refine w_if_ne (tgt := 35) d_PR_readPart_16 rfl (fun c16 => ?_) (fun c16 => ?_)
  · refine w_iload_n d_PR_readPart_35 rfl ?_
    refine w_tableIn (off := 76) (tgt := 112) d_PR_readPart_36 (by decide) (by decide) (by decide) (by decide) ?_
    refine w_aload_n d_PR_readPart_112 rfl rfl ?_
    refine w_iload_n d_PR_readPart_113 rfl ?_
    refine w_iconst (v := nI 3) d_PR_readPart_114 (by decide) ?_
    refine w_icmp_ne (tgt := 122) d_PR_readPart_115 rfl (fun z => absurd (by decide) z) (fun _ => ?_)
    refine w_iconst (v := nI 1) d_PR_readPart_118 (by decide) ?_
    refine w_goto (tgt := 123) d_PR_readPart_119 rfl ?_
    refine w_callV (as := [.int (nI 1)]) (st := []) d_PR_readPart_123 yM_PR_readProperty l_PR_67 vM_PR_readProperty hp rfl rfl rfl rfl (m_PR_prop1 hT hq0 hb hnx hn9 hv9) (by decide) (by decide) (by decide) (by decide) (Nat.le_of_ble_eq_true rfl) ?_
    rintro _ h9 ⟨ho9, rfl, hr9⟩
    refine w_eq (st' := [.int (bI (rProp tk B d nx true).isSome)]) rfl ?_
    rw [← hEN]
    refine w_zret d_PR_readPart_126 rfl (bI_01 _) ?_
    rw [rStep_3 hc]
    exact ⟨ho9, rfl, hr9⟩
  · refine w_aload_n d_PR_readPart_19 rfl rfl ?_
    refine w_get d_PR_readPart_20 f_PR_12 hp rfl ?_
    refine w_aload_n d_PR_readPart_23 rfl rfl ?_
    refine w_get d_PR_readPart_24 f_PR_42 hp rfl ?_
    refine w_callV (as := [.int (nI nx)]) (st := []) d_PR_readPart_27 yM_TR_beginsSet l_PR_56 vM_TR_beginsSet trp rfl rfl rfl rfl (m_TR_beginsSet htr (by omega) (by omega)) (by decide) (by decide) (by decide) (by decide) (Nat.le_of_ble_eq_true rfl) ?_
    rintro _ h9_2 ⟨rfl, e9_2⟩
    rw [e9_2]
    refine w_eq (st' := [.int (bI (decide (kd tk nx = 4 ∨ kd tk nx = 5 ∨ kd tk nx = 2 ∨ kd tk nx = 3)))]) rfl ?_
    refine w_topi (y := nI 1) (congrArg bI (decide_eq_true (by rw [hc]; decide))) ?_
    refine w_if_ne (tgt := 35) d_PR_readPart_30 rfl (fun _ => ?_) (fun z => absurd z (by decide))
    refine w_iload_n d_PR_readPart_35 rfl ?_
    refine w_tableIn (off := 76) (tgt := 112) d_PR_readPart_36 (by decide) (by decide) (by decide) (by decide) ?_
    refine w_aload_n d_PR_readPart_112 rfl rfl ?_
    refine w_iload_n d_PR_readPart_113 rfl ?_
    refine w_iconst (v := nI 3) d_PR_readPart_114 (by decide) ?_
    refine w_icmp_ne (tgt := 122) d_PR_readPart_115 rfl (fun z => absurd (by decide) z) (fun _ => ?_)
    refine w_iconst (v := nI 1) d_PR_readPart_118 (by decide) ?_
    refine w_goto (tgt := 123) d_PR_readPart_119 rfl ?_
    refine w_callV (as := [.int (nI 1)]) (st := []) d_PR_readPart_123 yM_PR_readProperty l_PR_67 vM_PR_readProperty hp rfl rfl rfl rfl (m_PR_prop1 hT hq0 hb hnx hn9 hv9) (by decide) (by decide) (by decide) (by decide) (Nat.le_of_ble_eq_true rfl) ?_
    rintro _ h9 ⟨ho9, rfl, hr9⟩
    refine w_eq (st' := [.int (bI (rProp tk B d nx true).isSome)]) rfl ?_
    rw [← hEN]
    refine w_zret d_PR_readPart_126 rfl (bI_01 _) ?_
    rw [rStep_3 hc]
    exact ⟨ho9, rfl, hr9⟩
set_option maxHeartbeats 4000000 in
set_option maxRecDepth 100000 in
theorem m_PR_part_4 (hT : xTab X) {h : wH} {tk : List (Nat × Int32)} {B : Nat → Br} {nx o s v d : Nat} {b : Nat → Nat} (hq : hPR h tk B d nx o s v b) (hb : bOk B d) (hnx : nx < 2 ^ 20) (hkd : tkOk tk) (hc : kd tk nx = 4) : PM X M_PR_readPart 5 0 0 [.ref 13] h (rQ (rStep tk B d nx) h tk) := by
  have hq0 := hq; obtain ⟨hp, ⟨t, l, pos, htr⟩, ⟨f, har, hfr⟩, hbr, ⟨E1, S1, hop⟩, ⟨E2, S2, hsp⟩, po, ps, pb, pos1, pbo, pbb⟩ := hq
  have trp := htr.choose_spec.choose_spec.1; have hl60 : tk.length ≤ 60 := htr.choose_spec.choose_spec.2.2.2.2.2.1
  have hb5 := hb.1
  refine PM.at (pl := [some (.ref 13), none]) rfl rfl (by simp [wle, wen]) ?_
  generalize hEN : wEm X 0 0 _ = EN
  refine w_aload_n d_PR_readPart_0 rfl rfl ?_
  refine w_get d_PR_readPart_1 f_PR_12 hp rfl ?_
  refine w_aload_n d_PR_readPart_4 rfl rfl ?_
  refine w_get d_PR_readPart_5 f_PR_42 hp rfl ?_
  refine w_callV (as := [.int (nI nx)]) (st := []) d_PR_readPart_8 yM_TR_kindAt l_PR_52 vM_TR_kindAt trp rfl rfl rfl rfl (m_TR_kindAt htr (by omega)) (by decide) (by decide) (by decide) (by decide) (Nat.le_of_ble_eq_true rfl) ?_
  rintro _ h9_1 ⟨rfl, e9_1⟩
  rw [e9_1]
  refine w_eq (st' := [.int (nI (kd tk nx))]) rfl ?_
  refine w_topi (y := nI 4) (congrArg nI hc) ?_
  refine w_istore_n d_PR_readPart_11 (by decide) ?_
  refine w_pl (pl' := [some (.ref 13), some (.int (nI 4))]) rfl ?_
  refine w_aload_n d_PR_readPart_12 rfl rfl ?_
  refine w_get d_PR_readPart_13 f_PR_38 hp rfl ?_
  refine w_if_ne (tgt := 35) d_PR_readPart_16 rfl (fun c16 => ?_) (fun c16 => ?_)
  · refine w_iload_n d_PR_readPart_35 rfl ?_
    refine w_tableIn (off := 56) (tgt := 92) d_PR_readPart_36 (by decide) (by decide) (by decide) (by decide) ?_
    refine w_aload_n d_PR_readPart_92 rfl rfl ?_
    refine w_iload_n d_PR_readPart_93 rfl ?_
    refine w_iconst (v := nI 5) d_PR_readPart_94 (by decide) ?_
    refine w_icmp_ne (tgt := 102) d_PR_readPart_95 rfl (fun _ => ?_) (fun z => absurd z (by decide))
    refine w_iconst (v := nI 0) d_PR_readPart_102 (by decide) ?_
    refine w_callV (as := [.int (nI 0)]) (st := []) d_PR_readPart_103 yM_PR_openBracket l_PR_60 vM_PR_openBracket hp rfl rfl rfl rfl (m_PR_open hq0 (z := false) hb.1) (by decide) (by decide) (by decide) (by decide) (Nat.le_of_ble_eq_true rfl) ?_
    rintro _ h9 ⟨ho9, rfl, hr9⟩
    refine w_eq (st' := [.int (bI (rOpen B d nx false).isSome)]) rfl ?_
    rw [← hEN]
    refine w_zret d_PR_readPart_106 rfl (bI_01 _) ?_
    rw [rStep_4 hc]
    exact ⟨ho9, rfl, hr9⟩
  · refine w_aload_n d_PR_readPart_19 rfl rfl ?_
    refine w_get d_PR_readPart_20 f_PR_12 hp rfl ?_
    refine w_aload_n d_PR_readPart_23 rfl rfl ?_
    refine w_get d_PR_readPart_24 f_PR_42 hp rfl ?_
    refine w_callV (as := [.int (nI nx)]) (st := []) d_PR_readPart_27 yM_TR_beginsSet l_PR_56 vM_TR_beginsSet trp rfl rfl rfl rfl (m_TR_beginsSet htr (by omega) (by omega)) (by decide) (by decide) (by decide) (by decide) (Nat.le_of_ble_eq_true rfl) ?_
    rintro _ h9_2 ⟨rfl, e9_2⟩
    rw [e9_2]
    refine w_eq (st' := [.int (bI (decide (kd tk nx = 4 ∨ kd tk nx = 5 ∨ kd tk nx = 2 ∨ kd tk nx = 3)))]) rfl ?_
    refine w_topi (y := nI 1) (congrArg bI (decide_eq_true (by rw [hc]; decide))) ?_
    refine w_if_ne (tgt := 35) d_PR_readPart_30 rfl (fun _ => ?_) (fun z => absurd z (by decide))
    refine w_iload_n d_PR_readPart_35 rfl ?_
    refine w_tableIn (off := 56) (tgt := 92) d_PR_readPart_36 (by decide) (by decide) (by decide) (by decide) ?_
    refine w_aload_n d_PR_readPart_92 rfl rfl ?_
    refine w_iload_n d_PR_readPart_93 rfl ?_
    refine w_iconst (v := nI 5) d_PR_readPart_94 (by decide) ?_
    refine w_icmp_ne (tgt := 102) d_PR_readPart_95 rfl (fun _ => ?_) (fun z => absurd z (by decide))
    refine w_iconst (v := nI 0) d_PR_readPart_102 (by decide) ?_
    refine w_callV (as := [.int (nI 0)]) (st := []) d_PR_readPart_103 yM_PR_openBracket l_PR_60 vM_PR_openBracket hp rfl rfl rfl rfl (m_PR_open hq0 (z := false) hb.1) (by decide) (by decide) (by decide) (by decide) (Nat.le_of_ble_eq_true rfl) ?_
    rintro _ h9 ⟨ho9, rfl, hr9⟩
    refine w_eq (st' := [.int (bI (rOpen B d nx false).isSome)]) rfl ?_
    rw [← hEN]
    refine w_zret d_PR_readPart_106 rfl (bI_01 _) ?_
    rw [rStep_4 hc]
    exact ⟨ho9, rfl, hr9⟩
set_option maxHeartbeats 4000000 in
set_option maxRecDepth 100000 in
theorem m_PR_part_5 (hT : xTab X) {h : wH} {tk : List (Nat × Int32)} {B : Nat → Br} {nx o s v d : Nat} {b : Nat → Nat} (hq : hPR h tk B d nx o s v b) (hb : bOk B d) (hnx : nx < 2 ^ 20) (hkd : tkOk tk) (hc : kd tk nx = 5) : PM X M_PR_readPart 5 0 0 [.ref 13] h (rQ (rStep tk B d nx) h tk) := by
  have hq0 := hq; obtain ⟨hp, ⟨t, l, pos, htr⟩, ⟨f, har, hfr⟩, hbr, ⟨E1, S1, hop⟩, ⟨E2, S2, hsp⟩, po, ps, pb, pos1, pbo, pbb⟩ := hq
  have trp := htr.choose_spec.choose_spec.1; have hl60 : tk.length ≤ 60 := htr.choose_spec.choose_spec.2.2.2.2.2.1
  have hb5 := hb.1
  refine PM.at (pl := [some (.ref 13), none]) rfl rfl (by simp [wle, wen]) ?_
  generalize hEN : wEm X 0 0 _ = EN
  refine w_aload_n d_PR_readPart_0 rfl rfl ?_
  refine w_get d_PR_readPart_1 f_PR_12 hp rfl ?_
  refine w_aload_n d_PR_readPart_4 rfl rfl ?_
  refine w_get d_PR_readPart_5 f_PR_42 hp rfl ?_
  refine w_callV (as := [.int (nI nx)]) (st := []) d_PR_readPart_8 yM_TR_kindAt l_PR_52 vM_TR_kindAt trp rfl rfl rfl rfl (m_TR_kindAt htr (by omega)) (by decide) (by decide) (by decide) (by decide) (Nat.le_of_ble_eq_true rfl) ?_
  rintro _ h9_1 ⟨rfl, e9_1⟩
  rw [e9_1]
  refine w_eq (st' := [.int (nI (kd tk nx))]) rfl ?_
  refine w_topi (y := nI 5) (congrArg nI hc) ?_
  refine w_istore_n d_PR_readPart_11 (by decide) ?_
  refine w_pl (pl' := [some (.ref 13), some (.int (nI 5))]) rfl ?_
  refine w_aload_n d_PR_readPart_12 rfl rfl ?_
  refine w_get d_PR_readPart_13 f_PR_38 hp rfl ?_
  refine w_if_ne (tgt := 35) d_PR_readPart_16 rfl (fun c16 => ?_) (fun c16 => ?_)
  · refine w_iload_n d_PR_readPart_35 rfl ?_
    refine w_tableIn (off := 56) (tgt := 92) d_PR_readPart_36 (by decide) (by decide) (by decide) (by decide) ?_
    refine w_aload_n d_PR_readPart_92 rfl rfl ?_
    refine w_iload_n d_PR_readPart_93 rfl ?_
    refine w_iconst (v := nI 5) d_PR_readPart_94 (by decide) ?_
    refine w_icmp_ne (tgt := 102) d_PR_readPart_95 rfl (fun z => absurd (by decide) z) (fun _ => ?_)
    refine w_iconst (v := nI 1) d_PR_readPart_98 (by decide) ?_
    refine w_goto (tgt := 103) d_PR_readPart_99 rfl ?_
    refine w_callV (as := [.int (nI 1)]) (st := []) d_PR_readPart_103 yM_PR_openBracket l_PR_60 vM_PR_openBracket hp rfl rfl rfl rfl (m_PR_open hq0 (z := true) hb.1) (by decide) (by decide) (by decide) (by decide) (Nat.le_of_ble_eq_true rfl) ?_
    rintro _ h9 ⟨ho9, rfl, hr9⟩
    refine w_eq (st' := [.int (bI (rOpen B d nx true).isSome)]) rfl ?_
    rw [← hEN]
    refine w_zret d_PR_readPart_106 rfl (bI_01 _) ?_
    rw [rStep_5 hc]
    exact ⟨ho9, rfl, hr9⟩
  · refine w_aload_n d_PR_readPart_19 rfl rfl ?_
    refine w_get d_PR_readPart_20 f_PR_12 hp rfl ?_
    refine w_aload_n d_PR_readPart_23 rfl rfl ?_
    refine w_get d_PR_readPart_24 f_PR_42 hp rfl ?_
    refine w_callV (as := [.int (nI nx)]) (st := []) d_PR_readPart_27 yM_TR_beginsSet l_PR_56 vM_TR_beginsSet trp rfl rfl rfl rfl (m_TR_beginsSet htr (by omega) (by omega)) (by decide) (by decide) (by decide) (by decide) (Nat.le_of_ble_eq_true rfl) ?_
    rintro _ h9_2 ⟨rfl, e9_2⟩
    rw [e9_2]
    refine w_eq (st' := [.int (bI (decide (kd tk nx = 4 ∨ kd tk nx = 5 ∨ kd tk nx = 2 ∨ kd tk nx = 3)))]) rfl ?_
    refine w_topi (y := nI 1) (congrArg bI (decide_eq_true (by rw [hc]; decide))) ?_
    refine w_if_ne (tgt := 35) d_PR_readPart_30 rfl (fun _ => ?_) (fun z => absurd z (by decide))
    refine w_iload_n d_PR_readPart_35 rfl ?_
    refine w_tableIn (off := 56) (tgt := 92) d_PR_readPart_36 (by decide) (by decide) (by decide) (by decide) ?_
    refine w_aload_n d_PR_readPart_92 rfl rfl ?_
    refine w_iload_n d_PR_readPart_93 rfl ?_
    refine w_iconst (v := nI 5) d_PR_readPart_94 (by decide) ?_
    refine w_icmp_ne (tgt := 102) d_PR_readPart_95 rfl (fun z => absurd (by decide) z) (fun _ => ?_)
    refine w_iconst (v := nI 1) d_PR_readPart_98 (by decide) ?_
    refine w_goto (tgt := 103) d_PR_readPart_99 rfl ?_
    refine w_callV (as := [.int (nI 1)]) (st := []) d_PR_readPart_103 yM_PR_openBracket l_PR_60 vM_PR_openBracket hp rfl rfl rfl rfl (m_PR_open hq0 (z := true) hb.1) (by decide) (by decide) (by decide) (by decide) (Nat.le_of_ble_eq_true rfl) ?_
    rintro _ h9 ⟨ho9, rfl, hr9⟩
    refine w_eq (st' := [.int (bI (rOpen B d nx true).isSome)]) rfl ?_
    rw [← hEN]
    refine w_zret d_PR_readPart_106 rfl (bI_01 _) ?_
    rw [rStep_5 hc]
    exact ⟨ho9, rfl, hr9⟩
set_option maxHeartbeats 4000000 in
set_option maxRecDepth 100000 in
theorem m_PR_part_6_0 (hT : xTab X) {h : wH} {tk : List (Nat × Int32)} {B : Nat → Br} {nx o s v k : Nat} {b : Nat → Nat} (hq : hPR h tk B (k + 1) nx o s v b) (hb : bOk B (k + 1)) (hnx : nx < 2 ^ 20) (hkd : tkOk tk) (hc : kd tk nx = 6) (hot : (B k).2.1 = false) : PM X M_PR_readPart 5 0 0 [.ref 13] h (rQ (rStep tk B (k + 1) nx) h tk) := by
  have hq0 := hq; obtain ⟨hp, ⟨t, l, pos, htr⟩, ⟨f, har, hfr⟩, hbr, ⟨E1, S1, hop⟩, ⟨E2, S2, hsp⟩, po, ps, pb, pos1, pbo, pbb⟩ := hq
  have trp := htr.choose_spec.choose_spec.1; have hl60 : tk.length ≤ 60 := htr.choose_spec.choose_spec.2.2.2.2.2.1
  have hb5 := hb.1
  refine PM.at (pl := [some (.ref 13), none]) rfl rfl (by simp [wle, wen]) ?_
  generalize hEN : wEm X 0 0 _ = EN
  refine w_aload_n d_PR_readPart_0 rfl rfl ?_
  refine w_get d_PR_readPart_1 f_PR_12 hp rfl ?_
  refine w_aload_n d_PR_readPart_4 rfl rfl ?_
  refine w_get d_PR_readPart_5 f_PR_42 hp rfl ?_
  refine w_callV (as := [.int (nI nx)]) (st := []) d_PR_readPart_8 yM_TR_kindAt l_PR_52 vM_TR_kindAt trp rfl rfl rfl rfl (m_TR_kindAt htr (by omega)) (by decide) (by decide) (by decide) (by decide) (Nat.le_of_ble_eq_true rfl) ?_
  rintro _ h9_1 ⟨rfl, e9_1⟩
  rw [e9_1]
  refine w_eq (st' := [.int (nI (kd tk nx))]) rfl ?_
  refine w_topi (y := nI 6) (congrArg nI hc) ?_
  refine w_istore_n d_PR_readPart_11 (by decide) ?_
  refine w_pl (pl' := [some (.ref 13), some (.int (nI 6))]) rfl ?_
  refine w_aload_n d_PR_readPart_12 rfl rfl ?_
  refine w_get d_PR_readPart_13 f_PR_38 hp rfl ?_
  refine w_if_ne (tgt := 35) d_PR_readPart_16 rfl (fun _ => ?_) (fun z => absurd z (nI_ne0 (by omega) (by omega)))
  refine w_iload_n d_PR_readPart_35 rfl ?_
  refine w_tableIn (off := 71) (tgt := 107) d_PR_readPart_36 (by decide) (by decide) (by decide) (by decide) ?_
  refine w_aload_n d_PR_readPart_107 rfl rfl ?_
  refine w_callV (as := []) (st := []) d_PR_readPart_108 yM_PR_endBracket l_PR_64 vM_PR_endBracket hp rfl rfl rfl rfl (m_PR_end0 hq0 hb hot) (by decide) (by decide) (by decide) (by decide) (Nat.le_of_ble_eq_true rfl) ?_
  rintro _ h9 ⟨ho9, rfl, hr9⟩
  refine w_eq (st' := [.int (bI (rEnd B (k + 1) nx).isSome)]) rfl ?_
  rw [← hEN]
  refine w_zret d_PR_readPart_111 rfl (bI_01 _) ?_
  rw [rStep_6 hc (Nat.succ_ne_zero k)]
  exact ⟨ho9, rfl, hr9⟩
set_option maxHeartbeats 4000000 in
set_option maxRecDepth 100000 in
theorem m_PR_part_6_1 (hT : xTab X) {h : wH} {tk : List (Nat × Int32)} {B : Nat → Br} {nx o s v k : Nat} {b : Nat → Nat} (hq : hPR h tk B (k + 1) nx o s v b) (hb : bOk B (k + 1)) (hnx : nx < 2 ^ 20) (hkd : tkOk tk) (hc : kd tk nx = 6) (hot : (B k).2.1 = true) : PM X M_PR_readPart 5 0 0 [.ref 13] h (rQ (rStep tk B (k + 1) nx) h tk) := by
  have hq0 := hq; obtain ⟨hp, ⟨t, l, pos, htr⟩, ⟨f, har, hfr⟩, hbr, ⟨E1, S1, hop⟩, ⟨E2, S2, hsp⟩, po, ps, pb, pos1, pbo, pbb⟩ := hq
  have trp := htr.choose_spec.choose_spec.1; have hl60 : tk.length ≤ 60 := htr.choose_spec.choose_spec.2.2.2.2.2.1
  have hb5 := hb.1
  refine PM.at (pl := [some (.ref 13), none]) rfl rfl (by simp [wle, wen]) ?_
  generalize hEN : wEm X 0 0 _ = EN
  refine w_aload_n d_PR_readPart_0 rfl rfl ?_
  refine w_get d_PR_readPart_1 f_PR_12 hp rfl ?_
  refine w_aload_n d_PR_readPart_4 rfl rfl ?_
  refine w_get d_PR_readPart_5 f_PR_42 hp rfl ?_
  refine w_callV (as := [.int (nI nx)]) (st := []) d_PR_readPart_8 yM_TR_kindAt l_PR_52 vM_TR_kindAt trp rfl rfl rfl rfl (m_TR_kindAt htr (by omega)) (by decide) (by decide) (by decide) (by decide) (Nat.le_of_ble_eq_true rfl) ?_
  rintro _ h9_1 ⟨rfl, e9_1⟩
  rw [e9_1]
  refine w_eq (st' := [.int (nI (kd tk nx))]) rfl ?_
  refine w_topi (y := nI 6) (congrArg nI hc) ?_
  refine w_istore_n d_PR_readPart_11 (by decide) ?_
  refine w_pl (pl' := [some (.ref 13), some (.int (nI 6))]) rfl ?_
  refine w_aload_n d_PR_readPart_12 rfl rfl ?_
  refine w_get d_PR_readPart_13 f_PR_38 hp rfl ?_
  refine w_if_ne (tgt := 35) d_PR_readPart_16 rfl (fun _ => ?_) (fun z => absurd z (nI_ne0 (by omega) (by omega)))
  refine w_iload_n d_PR_readPart_35 rfl ?_
  refine w_tableIn (off := 71) (tgt := 107) d_PR_readPart_36 (by decide) (by decide) (by decide) (by decide) ?_
  refine w_aload_n d_PR_readPart_107 rfl rfl ?_
  refine w_callV (as := []) (st := []) d_PR_readPart_108 yM_PR_endBracket l_PR_64 vM_PR_endBracket hp rfl rfl rfl rfl (m_PR_end1 hq0 hb hot) (by decide) (by decide) (by decide) (by decide) (Nat.le_of_ble_eq_true rfl) ?_
  rintro _ h9 ⟨ho9, rfl, hr9⟩
  refine w_eq (st' := [.int (bI (rEnd B (k + 1) nx).isSome)]) rfl ?_
  rw [← hEN]
  refine w_zret d_PR_readPart_111 rfl (bI_01 _) ?_
  rw [rStep_6 hc (Nat.succ_ne_zero k)]
  exact ⟨ho9, rfl, hr9⟩
set_option maxHeartbeats 4000000 in
set_option maxRecDepth 100000 in
theorem m_PR_part_7 (hT : xTab X) {h : wH} {tk : List (Nat × Int32)} {B : Nat → Br} {nx o s v k : Nat} {b : Nat → Nat} (hq : hPR h tk B (k + 1) nx o s v b) (hb : bOk B (k + 1)) (hnx : nx < 2 ^ 20) (hkd : tkOk tk) (hc : kd tk nx = 7) : PM X M_PR_readPart 5 0 0 [.ref 13] h (rQ (rStep tk B (k + 1) nx) h tk) := by
  have hq0 := hq; obtain ⟨hp, ⟨t, l, pos, htr⟩, ⟨f, har, hfr⟩, hbr, ⟨E1, S1, hop⟩, ⟨E2, S2, hsp⟩, po, ps, pb, pos1, pbo, pbb⟩ := hq
  have trp := htr.choose_spec.choose_spec.1; have hl60 : tk.length ≤ 60 := htr.choose_spec.choose_spec.2.2.2.2.2.1
  have hb5 := hb.1
  refine PM.at (pl := [some (.ref 13), none]) rfl rfl (by simp [wle, wen]) ?_
  generalize hEN : wEm X 0 0 _ = EN
  refine w_aload_n d_PR_readPart_0 rfl rfl ?_
  refine w_get d_PR_readPart_1 f_PR_12 hp rfl ?_
  refine w_aload_n d_PR_readPart_4 rfl rfl ?_
  refine w_get d_PR_readPart_5 f_PR_42 hp rfl ?_
  refine w_callV (as := [.int (nI nx)]) (st := []) d_PR_readPart_8 yM_TR_kindAt l_PR_52 vM_TR_kindAt trp rfl rfl rfl rfl (m_TR_kindAt htr (by omega)) (by decide) (by decide) (by decide) (by decide) (Nat.le_of_ble_eq_true rfl) ?_
  rintro _ h9_1 ⟨rfl, e9_1⟩
  rw [e9_1]
  refine w_eq (st' := [.int (nI (kd tk nx))]) rfl ?_
  refine w_topi (y := nI 7) (congrArg nI hc) ?_
  refine w_istore_n d_PR_readPart_11 (by decide) ?_
  refine w_pl (pl' := [some (.ref 13), some (.int (nI 7))]) rfl ?_
  refine w_aload_n d_PR_readPart_12 rfl rfl ?_
  refine w_get d_PR_readPart_13 f_PR_38 hp rfl ?_
  refine w_if_ne (tgt := 35) d_PR_readPart_16 rfl (fun _ => ?_) (fun z => absurd z (nI_ne0 (by omega) (by omega)))
  refine w_iload_n d_PR_readPart_35 rfl ?_
  refine w_tableIn (off := 91) (tgt := 127) d_PR_readPart_36 (by decide) (by decide) (by decide) (by decide) ?_
  refine w_aload_n d_PR_readPart_127 rfl rfl ?_
  refine w_callV (as := []) (st := []) d_PR_readPart_128 yM_PR_readString l_PR_70 vM_PR_readString hp rfl rfl rfl rfl (m_PR_str hq0 hb hnx hkd) (by decide) (by decide) (by decide) (by decide) (Nat.le_of_ble_eq_true rfl) ?_
  rintro _ h9 ⟨ho9, rfl, hr9⟩
  refine w_eq (st' := [.int (bI (rStr tk B (k + 1) nx).isSome)]) rfl ?_
  rw [← hEN]
  refine w_zret d_PR_readPart_131 rfl (bI_01 _) ?_
  rw [rStep_7 hc (Nat.succ_ne_zero k)]
  exact ⟨ho9, rfl, hr9⟩
set_option maxHeartbeats 4000000 in
set_option maxRecDepth 100000 in
theorem m_PR_part_8 (hT : xTab X) {h : wH} {tk : List (Nat × Int32)} {B : Nat → Br} {nx o s v k : Nat} {b : Nat → Nat} (hq : hPR h tk B (k + 1) nx o s v b) (hb : bOk B (k + 1)) (hnx : nx < 2 ^ 20) (hkd : tkOk tk) (hc : kd tk nx = 8) : PM X M_PR_readPart 5 0 0 [.ref 13] h (rQ (rStep tk B (k + 1) nx) h tk) := by
  have hq0 := hq; obtain ⟨hp, ⟨t, l, pos, htr⟩, ⟨f, har, hfr⟩, hbr, ⟨E1, S1, hop⟩, ⟨E2, S2, hsp⟩, po, ps, pb, pos1, pbo, pbb⟩ := hq
  have trp := htr.choose_spec.choose_spec.1; have hl60 : tk.length ≤ 60 := htr.choose_spec.choose_spec.2.2.2.2.2.1
  have hb5 := hb.1
  refine PM.at (pl := [some (.ref 13), none]) rfl rfl (by simp [wle, wen]) ?_
  generalize hEN : wEm X 0 0 _ = EN
  refine w_aload_n d_PR_readPart_0 rfl rfl ?_
  refine w_get d_PR_readPart_1 f_PR_12 hp rfl ?_
  refine w_aload_n d_PR_readPart_4 rfl rfl ?_
  refine w_get d_PR_readPart_5 f_PR_42 hp rfl ?_
  refine w_callV (as := [.int (nI nx)]) (st := []) d_PR_readPart_8 yM_TR_kindAt l_PR_52 vM_TR_kindAt trp rfl rfl rfl rfl (m_TR_kindAt htr (by omega)) (by decide) (by decide) (by decide) (by decide) (Nat.le_of_ble_eq_true rfl) ?_
  rintro _ h9_1 ⟨rfl, e9_1⟩
  rw [e9_1]
  refine w_eq (st' := [.int (nI (kd tk nx))]) rfl ?_
  refine w_topi (y := nI 8) (congrArg nI hc) ?_
  refine w_istore_n d_PR_readPart_11 (by decide) ?_
  refine w_pl (pl' := [some (.ref 13), some (.int (nI 8))]) rfl ?_
  refine w_aload_n d_PR_readPart_12 rfl rfl ?_
  refine w_get d_PR_readPart_13 f_PR_38 hp rfl ?_
  refine w_if_ne (tgt := 35) d_PR_readPart_16 rfl (fun _ => ?_) (fun z => absurd z (nI_ne0 (by omega) (by omega)))
  refine w_iload_n d_PR_readPart_35 rfl ?_
  refine w_tableIn (off := 112) (tgt := 148) d_PR_readPart_36 (by decide) (by decide) (by decide) (by decide) ?_
  refine w_iconst (v := nI 0) d_PR_readPart_148 (by decide) ?_
  rw [← hEN]
  refine w_zret d_PR_readPart_149 rfl (by first | exact Or.inl rfl | exact Or.inr rfl) ?_
  rw [rStep_8 hc (Nat.succ_ne_zero k)]
  exact ⟨wOff.rf, rfl, ⟨_, _, _, _, _, _, _, _, hq0⟩, fun B' d' nx' V hV => by cases hV⟩
set_option maxHeartbeats 4000000 in
set_option maxRecDepth 100000 in
theorem m_PR_part_9 (hT : xTab X) {h : wH} {tk : List (Nat × Int32)} {B : Nat → Br} {nx o s v k : Nat} {b : Nat → Nat} (hq : hPR h tk B (k + 1) nx o s v b) (hb : bOk B (k + 1)) (hnx : nx < 2 ^ 20) (hkd : tkOk tk) (hc : kd tk nx = 9) : PM X M_PR_readPart 5 0 0 [.ref 13] h (rQ (rStep tk B (k + 1) nx) h tk) := by
  have hq0 := hq; obtain ⟨hp, ⟨t, l, pos, htr⟩, ⟨f, har, hfr⟩, hbr, ⟨E1, S1, hop⟩, ⟨E2, S2, hsp⟩, po, ps, pb, pos1, pbo, pbb⟩ := hq
  have trp := htr.choose_spec.choose_spec.1; have hl60 : tk.length ≤ 60 := htr.choose_spec.choose_spec.2.2.2.2.2.1
  have hb5 := hb.1
  refine PM.at (pl := [some (.ref 13), none]) rfl rfl (by simp [wle, wen]) ?_
  generalize hEN : wEm X 0 0 _ = EN
  refine w_aload_n d_PR_readPart_0 rfl rfl ?_
  refine w_get d_PR_readPart_1 f_PR_12 hp rfl ?_
  refine w_aload_n d_PR_readPart_4 rfl rfl ?_
  refine w_get d_PR_readPart_5 f_PR_42 hp rfl ?_
  refine w_callV (as := [.int (nI nx)]) (st := []) d_PR_readPart_8 yM_TR_kindAt l_PR_52 vM_TR_kindAt trp rfl rfl rfl rfl (m_TR_kindAt htr (by omega)) (by decide) (by decide) (by decide) (by decide) (Nat.le_of_ble_eq_true rfl) ?_
  rintro _ h9_1 ⟨rfl, e9_1⟩
  rw [e9_1]
  refine w_eq (st' := [.int (nI (kd tk nx))]) rfl ?_
  refine w_topi (y := nI 9) (congrArg nI hc) ?_
  refine w_istore_n d_PR_readPart_11 (by decide) ?_
  refine w_pl (pl' := [some (.ref 13), some (.int (nI 9))]) rfl ?_
  refine w_aload_n d_PR_readPart_12 rfl rfl ?_
  refine w_get d_PR_readPart_13 f_PR_38 hp rfl ?_
  refine w_if_ne (tgt := 35) d_PR_readPart_16 rfl (fun _ => ?_) (fun z => absurd z (nI_ne0 (by omega) (by omega)))
  refine w_iload_n d_PR_readPart_35 rfl ?_
  refine w_tableIn (off := 101) (tgt := 137) d_PR_readPart_36 (by decide) (by decide) (by decide) (by decide) ?_
  refine w_aload_n d_PR_readPart_137 rfl rfl ?_
  refine w_callV (as := []) (st := []) d_PR_readPart_138 yM_PR_readHyphen l_PR_76 vM_PR_readHyphen hp rfl rfl rfl rfl (m_PR_hyph hq0 hb hnx hkd) (by decide) (by decide) (by decide) (by decide) (Nat.le_of_ble_eq_true rfl) ?_
  rintro _ h9 ⟨ho9, rfl, hr9⟩
  refine w_eq (st' := [.int (bI (rHyp tk B (k + 1) nx).isSome)]) rfl ?_
  rw [← hEN]
  refine w_zret d_PR_readPart_141 rfl (bI_01 _) ?_
  rw [rStep_9 hc (Nat.succ_ne_zero k)]
  exact ⟨ho9, rfl, hr9⟩
set_option maxHeartbeats 4000000 in
set_option maxRecDepth 100000 in
theorem m_PR_part_10 (hT : xTab X) {h : wH} {tk : List (Nat × Int32)} {B : Nat → Br} {nx o s v k : Nat} {b : Nat → Nat} (hq : hPR h tk B (k + 1) nx o s v b) (hb : bOk B (k + 1)) (hnx : nx < 2 ^ 20) (hkd : tkOk tk) (hc : kd tk nx = 10) : PM X M_PR_readPart 5 0 0 [.ref 13] h (rQ (rStep tk B (k + 1) nx) h tk) := by
  have hq0 := hq; obtain ⟨hp, ⟨t, l, pos, htr⟩, ⟨f, har, hfr⟩, hbr, ⟨E1, S1, hop⟩, ⟨E2, S2, hsp⟩, po, ps, pb, pos1, pbo, pbb⟩ := hq
  have trp := htr.choose_spec.choose_spec.1; have hl60 : tk.length ≤ 60 := htr.choose_spec.choose_spec.2.2.2.2.2.1
  have hb5 := hb.1
  refine PM.at (pl := [some (.ref 13), none]) rfl rfl (by simp [wle, wen]) ?_
  generalize hEN : wEm X 0 0 _ = EN
  refine w_aload_n d_PR_readPart_0 rfl rfl ?_
  refine w_get d_PR_readPart_1 f_PR_12 hp rfl ?_
  refine w_aload_n d_PR_readPart_4 rfl rfl ?_
  refine w_get d_PR_readPart_5 f_PR_42 hp rfl ?_
  refine w_callV (as := [.int (nI nx)]) (st := []) d_PR_readPart_8 yM_TR_kindAt l_PR_52 vM_TR_kindAt trp rfl rfl rfl rfl (m_TR_kindAt htr (by omega)) (by decide) (by decide) (by decide) (by decide) (Nat.le_of_ble_eq_true rfl) ?_
  rintro _ h9_1 ⟨rfl, e9_1⟩
  rw [e9_1]
  refine w_eq (st' := [.int (nI (kd tk nx))]) rfl ?_
  refine w_topi (y := nI 10) (congrArg nI hc) ?_
  refine w_istore_n d_PR_readPart_11 (by decide) ?_
  refine w_pl (pl' := [some (.ref 13), some (.int (nI 10))]) rfl ?_
  refine w_aload_n d_PR_readPart_12 rfl rfl ?_
  refine w_get d_PR_readPart_13 f_PR_38 hp rfl ?_
  refine w_if_ne (tgt := 35) d_PR_readPart_16 rfl (fun _ => ?_) (fun z => absurd z (nI_ne0 (by omega) (by omega)))
  refine w_iload_n d_PR_readPart_35 rfl ?_
  refine w_tableIn (off := 106) (tgt := 142) d_PR_readPart_36 (by decide) (by decide) (by decide) (by decide) ?_
  refine w_aload_n d_PR_readPart_142 rfl rfl ?_
  refine w_iconst (v := nI 1) d_PR_readPart_143 (by decide) ?_
  refine w_callV (as := [.int (nI 1)]) (st := []) d_PR_readPart_144 yM_PR_readSign l_PR_79 vM_PR_readSign hp rfl rfl rfl rfl (m_PR_sign hq0 (hw := 1) (by have := hb.1; omega) hnx hkd) (by decide) (by decide) (by decide) (by decide) (Nat.le_of_ble_eq_true rfl) ?_
  rintro _ h9 ⟨ho9, rfl, hr9⟩
  refine w_eq (st' := [.int (bI (rSign tk B (k + 1) nx 1).isSome)]) rfl ?_
  rw [← hEN]
  refine w_zret d_PR_readPart_147 rfl (bI_01 _) ?_
  rw [rStep_10 hc (Nat.succ_ne_zero k)]
  exact ⟨ho9, rfl, hr9⟩
set_option maxHeartbeats 4000000 in
set_option maxRecDepth 100000 in
theorem m_PR_part_0 (hT : xTab X) {h : wH} {tk : List (Nat × Int32)} {B : Nat → Br} {nx o s v k : Nat} {b : Nat → Nat} (hq : hPR h tk B (k + 1) nx o s v b) (hb : bOk B (k + 1)) (hnx : nx < 2 ^ 20) (hkd : tkOk tk) (hc : kd tk nx = 0) : PM X M_PR_readPart 5 0 0 [.ref 13] h (rQ (rStep tk B (k + 1) nx) h tk) := by
  have hq0 := hq; obtain ⟨hp, ⟨t, l, pos, htr⟩, ⟨f, har, hfr⟩, hbr, ⟨E1, S1, hop⟩, ⟨E2, S2, hsp⟩, po, ps, pb, pos1, pbo, pbb⟩ := hq
  have trp := htr.choose_spec.choose_spec.1; have hl60 : tk.length ≤ 60 := htr.choose_spec.choose_spec.2.2.2.2.2.1
  have hb5 := hb.1
  refine PM.at (pl := [some (.ref 13), none]) rfl rfl (by simp [wle, wen]) ?_
  generalize hEN : wEm X 0 0 _ = EN
  refine w_aload_n d_PR_readPart_0 rfl rfl ?_
  refine w_get d_PR_readPart_1 f_PR_12 hp rfl ?_
  refine w_aload_n d_PR_readPart_4 rfl rfl ?_
  refine w_get d_PR_readPart_5 f_PR_42 hp rfl ?_
  refine w_callV (as := [.int (nI nx)]) (st := []) d_PR_readPart_8 yM_TR_kindAt l_PR_52 vM_TR_kindAt trp rfl rfl rfl rfl (m_TR_kindAt htr (by omega)) (by decide) (by decide) (by decide) (by decide) (Nat.le_of_ble_eq_true rfl) ?_
  rintro _ h9_1 ⟨rfl, e9_1⟩
  rw [e9_1]
  refine w_eq (st' := [.int (nI (kd tk nx))]) rfl ?_
  refine w_topi (y := nI 0) (congrArg nI hc) ?_
  refine w_istore_n d_PR_readPart_11 (by decide) ?_
  refine w_pl (pl' := [some (.ref 13), some (.int (nI 0))]) rfl ?_
  refine w_aload_n d_PR_readPart_12 rfl rfl ?_
  refine w_get d_PR_readPart_13 f_PR_38 hp rfl ?_
  refine w_if_ne (tgt := 35) d_PR_readPart_16 rfl (fun _ => ?_) (fun z => absurd z (nI_ne0 (by omega) (by omega)))
  refine w_iload_n d_PR_readPart_35 rfl ?_
  refine w_tableOut (tgt := 148) d_PR_readPart_36 (by decide) (by decide) ?_
  refine w_iconst (v := nI 0) d_PR_readPart_148 (by decide) ?_
  rw [← hEN]
  refine w_zret d_PR_readPart_149 rfl (by first | exact Or.inl rfl | exact Or.inr rfl) ?_
  rw [rStep_0 hc (Nat.succ_ne_zero k)]
  exact ⟨wOff.rf, rfl, ⟨_, _, _, _, _, _, _, _, hq0⟩, fun B' d' nx' V hV => by cases hV⟩
set_option maxHeartbeats 4000000 in
set_option maxRecDepth 100000 in
theorem m_PR_part_no {h : wH} {tk : List (Nat × Int32)} {B : Nat → Br} {nx o s v : Nat} {b : Nat → Nat} (hq : hPR h tk B 0 nx o s v b) (hnx : nx < 2 ^ 20) (hkd : tkOk tk) (hc : ¬ (kd tk nx = 4 ∨ kd tk nx = 5 ∨ kd tk nx = 2 ∨ kd tk nx = 3)) : PM X M_PR_readPart 5 0 0 [.ref 13] h (rQ (rStep tk B 0 nx) h tk) := by
  have hq0 := hq; obtain ⟨hp, ⟨t, l, pos, htr⟩, ⟨f, har, hfr⟩, hbr, ⟨E1, S1, hop⟩, ⟨E2, S2, hsp⟩, po, ps, pb, pos1, pbo, pbb⟩ := hq
  have trp := htr.choose_spec.choose_spec.1; have hl60 : tk.length ≤ 60 := htr.choose_spec.choose_spec.2.2.2.2.2.1
  refine PM.at (pl := [some (.ref 13), none]) rfl rfl (by simp [wle, wen]) ?_
  generalize hEN : wEm X 0 0 _ = EN
  refine w_aload_n d_PR_readPart_0 rfl rfl ?_
  refine w_get d_PR_readPart_1 f_PR_12 hp rfl ?_
  refine w_aload_n d_PR_readPart_4 rfl rfl ?_
  refine w_get d_PR_readPart_5 f_PR_42 hp rfl ?_
  refine w_callV (as := [.int (nI nx)]) (st := []) d_PR_readPart_8 yM_TR_kindAt l_PR_52 vM_TR_kindAt trp rfl rfl rfl rfl (m_TR_kindAt htr (by omega)) (by decide) (by decide) (by decide) (by decide) (Nat.le_of_ble_eq_true rfl) ?_
  rintro _ h9_1 ⟨rfl, e9_1⟩
  rw [e9_1]
  refine w_eq (st' := [.int (nI (kd tk nx))]) rfl ?_
  refine w_istore_n d_PR_readPart_11 (by decide) ?_
  refine w_pl (pl' := [some (.ref 13), some (.int (nI (kd tk nx)))]) rfl ?_
  refine w_aload_n d_PR_readPart_12 rfl rfl ?_
  refine w_get d_PR_readPart_13 f_PR_38 hp rfl ?_
  refine w_if_ne (tgt := 35) d_PR_readPart_16 rfl (fun z => absurd (by decide) z) (fun _ => ?_)
  refine w_aload_n d_PR_readPart_19 rfl rfl ?_
  refine w_get d_PR_readPart_20 f_PR_12 hp rfl ?_
  refine w_aload_n d_PR_readPart_23 rfl rfl ?_
  refine w_get d_PR_readPart_24 f_PR_42 hp rfl ?_
  refine w_callV (as := [.int (nI nx)]) (st := []) d_PR_readPart_27 yM_TR_beginsSet l_PR_56 vM_TR_beginsSet trp rfl rfl rfl rfl (m_TR_beginsSet htr (by omega) (by have := kd_le hkd nx; omega)) (by decide) (by decide) (by decide) (by decide) (Nat.le_of_ble_eq_true rfl) ?_
  rintro _ h9_2 ⟨rfl, e9_2⟩
  rw [e9_2]
  refine w_eq (st' := [.int (bI (decide (kd tk nx = 4 ∨ kd tk nx = 5 ∨ kd tk nx = 2 ∨ kd tk nx = 3)))]) rfl ?_
  refine w_topi (y := nI 0) (congrArg bI (decide_eq_false hc)) ?_
  refine w_if_ne (tgt := 35) d_PR_readPart_30 rfl (fun z => absurd (by decide) z) (fun _ => ?_)
  refine w_iconst (v := nI 0) d_PR_readPart_33 (by decide) ?_
  rw [← hEN]
  refine w_zret d_PR_readPart_34 rfl (by first | exact Or.inl rfl | exact Or.inr rfl) ?_
  rw [rStep_no hc]
  exact ⟨wOff.rf, rfl, ⟨_, _, _, _, _, _, _, _, hq0⟩, fun B' d' nx' V hV => by cases hV⟩
theorem m_PR_part (hT : xTab X) {h : wH} {tk : List (Nat × Int32)} {B : Nat → Br} {d nx o s v : Nat} {b : Nat → Nat} (hq : hPR h tk B d nx o s v b) (hb : bOk B d) (hnx : nx < 2 ^ 20) (hkd : tkOk tk) : PM X M_PR_readPart 5 0 0 [.ref 13] h (rQ (rStep tk B d nx) h tk) := by
  by_cases hno : d = 0 ∧ ¬ (kd tk nx = 4 ∨ kd tk nx = 5 ∨ kd tk nx = 2 ∨ kd tk nx = 3)
  · obtain ⟨rfl, hno⟩ := hno
    exact m_PR_part_no hq hnx hkd hno
  have hdd : ¬ (kd tk nx = 4 ∨ kd tk nx = 5 ∨ kd tk nx = 2 ∨ kd tk nx = 3) → ∃ k, d = k + 1 := fun z => ⟨d - 1, by have : d ≠ 0 := fun y => hno ⟨y, z⟩; omega⟩
  rcases (by have := kd_le hkd nx; omega : kd tk nx = 0 ∨ kd tk nx = 1 ∨ kd tk nx = 2 ∨ kd tk nx = 3 ∨ kd tk nx = 4 ∨ kd tk nx = 5 ∨ kd tk nx = 6 ∨ kd tk nx = 7 ∨ kd tk nx = 8 ∨ kd tk nx = 9 ∨ kd tk nx = 10) with e | e | e | e | e | e | e | e | e | e | e
  · obtain ⟨k, rfl⟩ := hdd (by omega)
    exact m_PR_part_0 hT hq hb hnx hkd e
  · obtain ⟨k, rfl⟩ := hdd (by omega)
    exact m_PR_part_1 hT hq hb hnx hkd e
  · exact m_PR_part_2 hT hq hb hnx hkd e
  · exact m_PR_part_3 hT hq hb hnx hkd e
  · exact m_PR_part_4 hT hq hb hnx hkd e
  · exact m_PR_part_5 hT hq hb hnx hkd e
  · obtain ⟨k, rfl⟩ := hdd (by omega)
    cases ho : (B k).2.1 with
    | false => exact m_PR_part_6_0 hT hq hb hnx hkd e ho
    | true => exact m_PR_part_6_1 hT hq hb hnx hkd e ho
  · obtain ⟨k, rfl⟩ := hdd (by omega)
    exact m_PR_part_7 hT hq hb hnx hkd e
  · obtain ⟨k, rfl⟩ := hdd (by omega)
    exact m_PR_part_8 hT hq hb hnx hkd e
  · obtain ⟨k, rfl⟩ := hdd (by omega)
    exact m_PR_part_9 hT hq hb hnx hkd e
  · obtain ⟨k, rfl⟩ := hdd (by omega)
    exact m_PR_part_10 hT hq hb hnx hkd e
set_option maxHeartbeats 4000000 in
set_option maxRecDepth 100000 in
theorem m_PR_read (hT : xTab X) {h : wH} {tk : List (Nat × Int32)} {B : Nat → Br} {nx o s v d : Nat} {b : Nat → Nat} (hq : hPR h tk B d nx o s v b) (hkd : tkOk tk) (hw : wtR tk 0 ≤ 120) : PM X M_PR_readPattern 6 0 0 [.ref 13] h (fun r h' => r = some (.int (bI (rAll tk 60 B 0 0).isSome)) ∧ wOff h h' 13 35 ∧ hRd h' ∧ ∀ V, rAll tk 60 B 0 0 = some V → ∃ tk9 B9 d9 nx9 o9 s9 v9 b9, hPR h' tk9 B9 d9 nx9 o9 s9 v9 b9 ∧ hMS h' v9 V.1 V.2 ∧ P1 v9 ∧ iOk V ∧ V.1.length ≤ 120) := by
  have hq0 := hq; obtain ⟨hp, ⟨t, l, pos, htr⟩, ⟨f, har, hfr⟩, hbr, ⟨E1, S1, hop⟩, ⟨E2, S2, hsp⟩, po, ps, pb, pos1, pbo, pbb⟩ := hq
  have trp := htr.choose_spec.choose_spec.1; have hl60 : tk.length ≤ 60 := htr.choose_spec.choose_spec.2.2.2.2.2.1
  obtain ⟨res, hres⟩ : ∃ res, res = rAll tk 60 B 0 0 := ⟨_, rfl⟩
  rw [← hres]
  refine PM.at (pl := [some (.ref 13), none]) rfl rfl (by simp [wle, wen]) ?_
  generalize hEN : wEm X 0 0 _ = EN
  have L : ∀ (n : Nat) (st : Nat) (B1 : Nat → Br) (d1 n1 o1 s1 v1 : Nat) (b1 : Nat → Nat) (h3 : wH), (60 - st < n) → (st ≤ 60) → (hPR h3 tk B1 d1 n1 o1 s1 v1 b1) → (wOff h h3 13 35) → (rInv tk B1 d1 n1) → (rAll tk (60 - st) B1 d1 n1 = res) → WP X M_PR_readPattern (wR 6 0 0) 0 EN 0 0 12 [some (.ref 13), some (.int (nI st))] [] h3 := by
    intro n
    induction n with
    | zero => intro st B1 d1 n1 o1 s1 v1 b1 h3 k1 k2 k3 k4 k5 k6; omega
    | succ n ih =>
      intro st B1 d1 n1 o1 s1 v1 b1 h3 k1 k2 k3 k4 k5 k6
      have kq0 := k3; obtain ⟨khp, ⟨kt, kl, kpos, khtr⟩, -⟩ := k3; have ktrp := khtr.choose_spec.choose_spec.1
      refine w_iload_n d_PR_readPattern_12 rfl ?_
      refine w_bipush (v := nI 60) d_PR_readPattern_13 (by decide) ?_
      refine w_icmp_ge (tgt := 74) d_PR_readPattern_15 rfl (fun c15 => ?_) (fun c15 => ?_)
      · have c15 : 60 ≤ st := (nI_leI (a := 60) (b := st) (by decide) (by omega)).mp c15
        have hno : res = none := by rw [← k6, show 60 - st = 0 by omega]; rfl
        refine w_iconst (v := nI 0) d_PR_readPattern_74 (by decide) ?_
        rw [← hEN]
        refine w_zret d_PR_readPattern_75 rfl (by first | exact Or.inl rfl | exact Or.inr rfl) ?_
        refine ⟨by rw [hno]; rfl, k4, ⟨_, _, _, _, _, _, _, _, kq0⟩, fun V hV => ?_⟩
        rw [hno] at hV; cases hV
      · have c15 : st < 60 := Nat.not_le.mp (fun z => c15 ((nI_leI (a := 60) (b := st) (by decide) (by omega)).mpr z))
        rw [show 60 - st = (60 - (st + 1)) + 1 by omega] at k6
        unfold rAll at k6
        refine w_aload_n d_PR_readPattern_18 rfl rfl ?_
        refine w_get d_PR_readPattern_19 f_PR_42 khp rfl ?_
        refine w_aload_n d_PR_readPattern_22 rfl rfl ?_
        refine w_get d_PR_readPattern_23 f_PR_12 khp rfl ?_
        refine w_get d_PR_readPattern_26 f_PR_45 ktrp rfl ?_
        refine w_icmp_ge (tgt := 74) d_PR_readPattern_29 rfl (fun c29 => ?_) (fun c29 => ?_)
        · have c29 : ¬ n1 < tk.length := Nat.not_lt.mpr ((nI_leI (a := tk.length) (b := n1) (by omega) (by have := k5.2.2.2; omega)).mp c29)
          have hno : res = none := by rw [← k6, if_neg c29]
          refine w_iconst (v := nI 0) d_PR_readPattern_74 (by decide) ?_
          rw [← hEN]
          refine w_zret d_PR_readPattern_75 rfl (by first | exact Or.inl rfl | exact Or.inr rfl) ?_
          refine ⟨by rw [hno]; rfl, k4, ⟨_, _, _, _, _, _, _, _, kq0⟩, fun V hV => ?_⟩
          rw [hno] at hV; cases hV
        · have c29 : n1 < tk.length := Nat.not_le.mp (fun z => c29 ((nI_leI (a := tk.length) (b := n1) (by omega) (by have := k5.2.2.2; omega)).mpr z))
          rw [if_pos c29] at k6
          refine w_aload_n d_PR_readPattern_32 rfl rfl ?_
          refine w_callV (as := []) (st := []) d_PR_readPattern_33 yM_PR_readPart l_PR_48 vM_PR_readPart khp rfl rfl rfl rfl (m_PR_part hT kq0 (k5.bk hl60) (by omega) hkd) (by decide) (by decide) (by decide) (by decide) (Nat.le_of_ble_eq_true rfl) ?_
          rintro _ h9 ⟨ho9, rfl, hrd9, hr9⟩
          refine w_eq (st' := [.int (bI (rStep tk B1 d1 n1).isSome)]) rfl ?_
          refine w_if_ne (tgt := 41) d_PR_readPattern_36 rfl (fun c36 => ?_) (fun c36 => ?_)
          · have c36 := bI_t c36
            obtain ⟨⟨B2, d2, n2, V2⟩, hx⟩ := Option.isSome_iff_exists.mp c36
            rw [hx] at k6
            dsimp only at k6
            obtain ⟨o2, s2, v2, b2, hq2, hv2⟩ := hr9 B2 d2 n2 V2 hx
            obtain ⟨i2, i3, i4⟩ := rEk_step hkd k5 B2 d2 n2 V2 hx
            have hp2 := hq2.1
            obtain ⟨t2, l2, pos2, htr2⟩ := id hq2.2.1
            have trp2 := htr2.choose_spec.choose_spec.1
            refine w_aload_n d_PR_readPattern_41 rfl rfl ?_
            refine w_get d_PR_readPattern_42 f_PR_38 hp2 rfl ?_
            refine w_if_ne (tgt := 68) d_PR_readPattern_45 rfl (fun c45 => ?_) (fun c45 => ?_)
            · have c45 : ¬ d2 = 0 := fun z => c45 (by rw [z]; rfl)
              rw [if_neg c45] at k6
              refine w_iinc (v := nI (st + 1)) d_PR_readPattern_68 rfl (nI_1 _) (by decide) ?_
              refine w_pl (pl' := [some (.ref 13), some (.int (nI (st + 1)))]) rfl ?_
              refine w_goto (tgt := 12) d_PR_readPattern_71 rfl ?_
              exact ih (st + 1) B2 d2 n2 o2 s2 v2 b2 h9 (by omega) (by omega) hq2 (k4.tr ho9) i2 k6
            · have c45 : d2 = 0 := (nI_eq (a := d2) (b := 0) (by have := i2.1; omega) (by decide)).mp c45
              rw [if_pos c45] at k6
              refine w_aload_n d_PR_readPattern_48 rfl rfl ?_
              refine w_get d_PR_readPattern_49 f_PR_42 hp2 rfl ?_
              refine w_aload_n d_PR_readPattern_52 rfl rfl ?_
              refine w_get d_PR_readPattern_53 f_PR_12 hp2 rfl ?_
              refine w_get d_PR_readPattern_56 f_PR_45 trp2 rfl ?_
              refine w_icmp_ne (tgt := 66) d_PR_readPattern_59 rfl (fun c59 => ?_) (fun c59 => ?_)
              · have c59 : ¬ n2 = tk.length := fun z => c59 (by rw [z])
                rw [if_neg c59] at k6
                refine w_iconst (v := nI 0) d_PR_readPattern_66 (by decide) ?_
                rw [← hEN]
                refine w_zret d_PR_readPattern_67 rfl (by first | exact Or.inl rfl | exact Or.inr rfl) ?_
                refine ⟨by rw [← k6]; rfl, k4.tr ho9, hrd9, fun V hV => ?_⟩
                first
                | (rw [← k6] at hV; cases hV; done)
                | (rw [← k6] at hV; cases hV; exact ⟨_, _, _, _, _, _, _, _, hq2, (hv2 c45).1, (hv2 c45).2, (i4 c45).1, (i4 c45).2⟩)
              · have c59 : n2 = tk.length := (nI_eq (a := n2) (b := tk.length) (by have := i2.2.2.2; omega) (by omega)).mp c59
                rw [if_pos c59] at k6
                refine w_iconst (v := nI 1) d_PR_readPattern_62 (by decide) ?_
                refine w_goto (tgt := 67) d_PR_readPattern_63 rfl ?_
                rw [← hEN]
                refine w_zret d_PR_readPattern_67 rfl (by first | exact Or.inl rfl | exact Or.inr rfl) ?_
                refine ⟨by rw [← k6]; rfl, k4.tr ho9, hrd9, fun V hV => ?_⟩
                first
                | (rw [← k6] at hV; cases hV; done)
                | (rw [← k6] at hV; cases hV; exact ⟨_, _, _, _, _, _, _, _, hq2, (hv2 c45).1, (hv2 c45).2, (i4 c45).1, (i4 c45).2⟩)
          · have c36 := bI_f c36
            have hx : rStep tk B1 d1 n1 = none := by cases hz : rStep tk B1 d1 n1 with | none => rfl | some q => rw [hz] at c36; cases c36
            rw [hx] at k6
            refine w_iconst (v := nI 0) d_PR_readPattern_39 (by decide) ?_
            rw [← hEN]
            refine w_zret d_PR_readPattern_40 rfl (by first | exact Or.inl rfl | exact Or.inr rfl) ?_
            refine ⟨by rw [← k6]; rfl, k4.tr ho9, hrd9, fun V hV => ?_⟩
            rw [← k6] at hV; cases hV
  refine w_aload_n d_PR_readPattern_0 rfl rfl ?_
  refine w_iconst (v := nI 0) d_PR_readPattern_1 (by decide) ?_
  refine w_put d_PR_readPattern_2 f_PR_38 rfl hp rfl rfl rfl ?_
  refine w_nm (fun h1 e1 => ?_)
  have hp_1 := wS_eq e1 hp
  have trp_1 := wS_ne e1 (by omega) trp
  refine w_aload_n d_PR_readPattern_5 rfl rfl ?_
  refine w_iconst (v := nI 0) d_PR_readPattern_6 (by decide) ?_
  refine w_put d_PR_readPattern_7 f_PR_42 rfl hp_1 rfl rfl rfl ?_
  refine w_nm (fun h2 e2 => ?_)
  have hp_2 := wS_eq e2 hp_1
  have trp_2 := wS_ne e2 (by omega) trp_1
  refine w_iconst (v := nI 0) d_PR_readPattern_10 (by decide) ?_
  refine w_istore_n d_PR_readPattern_11 (by decide) ?_
  refine w_pl (pl' := [some (.ref 13), some (.int (nI 0))]) rfl ?_
  have hq3 := hq0.ob (d' := 0) (nx' := 0) hp_2 (fun j hj => by rw [wS_off e2 (by omega), wS_off e1 (by omega)])
  exact L 61 0 B 0 0 o s v b h2 (by omega) (by omega) hq3 (fun j hj => by rw [wS_off e2 (by omega), wS_off e1 (by omega)]) ⟨by omega, fun k hk => by omega, by show 0 + wtR tk 0 ≤ 120; omega, Nat.zero_le _⟩ hres.symm
end PR4
