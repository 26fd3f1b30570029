/-! the two readings of a text are one: written by wip/gen/eq.py -/
/-- all tokens from k on -/
def lxS (t : List Nat) (k : Nat) : Option (List (Nat × Int32)) := lxAll t (t.length - k) k []
theorem lxAll_acc (t : List Nat) : ∀ (f k : Nat) (tk : List (Nat × Int32)), lxAll t f k tk = (lxAll t f k []).map (tk ++ ·)
  | 0, k, tk => by
    show some tk = some (tk ++ [])
    rw [List.append_nil]
  | f + 1, k, tk => by
    unfold lxAll
    cases hc : t[k]? with
    | none =>
      show some tk = some (tk ++ [])
      rw [List.append_nil]
    | some c =>
      dsimp only
      cases hx : lxAt t k c with
      | none => rfl
      | some y =>
        obtain ⟨q, w⟩ := y
        cases q with
        | none => exact lxAll_acc t f (k + w) tk
        | some q =>
          dsimp only
          rw [lxAll_acc t f (k + w) (tk ++ [q]), lxAll_acc t f (k + w) ([] ++ [q]), Option.map_map]
          congr 1
          funext l
          simp
theorem lxS_end {t : List Nat} {k : Nat} (h : t[k]? = none) : lxS t k = some [] := by
  have := List.getElem?_eq_none_iff.mp h
  unfold lxS
  rw [show t.length - k = 0 by omega]
  rfl
theorem lxS_at {t : List Nat} {k c : Nat} (h : t[k]? = some c) : lxS t k = match lxAt t k c with
    | none => none
    | some (none, w) => lxS t (k + w)
    | some (some q, w) => (lxS t (k + w)).map (q :: ·) := by
  have hk := lx_lt h
  have e : lxS t k = lxAll t ((t.length - (k + 1)) + 1) k [] := by unfold lxS; congr 1; omega
  rw [e]
  unfold lxAll
  rw [h]
  dsimp only
  cases hx : lxAt t k c with
  | none => rfl
  | some y =>
    obtain ⟨q, w⟩ := y
    have hw := lxAt_w hk hx
    cases q with
    | none => exact lxAll_more t t.length _ _ _ (by omega) (by omega) (by omega)
    | some q =>
      dsimp only
      rw [lxAll_acc, lxAll_more t t.length _ _ _ (by omega) (by omega) (by omega)]
      rfl
theorem lxAt_32 (t : List Nat) (k : Nat) : lxAt t k 32 = some (none, 1) := rfl
theorem lxS_sp (t : List Nat) (k : Nat) : lxS t (pSp t k) = lxS t k := by
  have go : ∀ n k, t.length - k ≤ n → lxS t (pSp t k) = lxS t k := by
    intro n
    induction n with
    | zero =>
      intro k hk
      rw [pSp_no (fun z => by have := lx_lt z; omega)]
    | succ n ih =>
      intro k hk
      by_cases h : t[k]? = some 32
      · have := lx_lt h
        rw [pSp_32 h, ih (k + 1) (by omega), lxS_at h, lxAt_32]
      · rw [pSp_no h]
  exact go _ k (Nat.le_refl _)
theorem lxAt_none {t : List Nat} {p c w : Nat} (h : lxAt t p c = some (none, w)) : c = 32 := by
  refine Decidable.byContradiction fun hn => ?_
  unfold lxAt at h
  rw [if_neg hn] at h
  split at h
  · cases h
  split at h
  · cases h
  split at h
  · unfold lxOpen at h
    split at h
    · cases h
    split at h
    · obtain ⟨q, hq⟩ := lxOpen2_s h
      cases hq
    · cases h
  split at h
  · split at h
    · obtain ⟨q, hq⟩ := lxName2_s h
      cases hq
    · unfold lxEsc at h
      split at h
      · cases h
      · split at h
        · cases h
        split at h
        · cases h
        split at h
        · unfold lxFour at h
          split at h <;> cases h
        split at h
        · unfold lxBr lxBr2 at h
          split at h
          · split at h <;> cases h
          · cases h
        split at h <;> cases h
  split at h
  · cases h
  split at h
  · cases h
  split at h
  · cases h
  split at h
  · cases h
  · cases h
def KC (t : List Nat) (p c k w : Nat) : Prop := (c = 93 ↔ k = 6) ∧ (c = 45 ↔ k = 9) ∧ (c = 125 ↔ k = 8) ∧ (c = 38 ↔ k = 10) ∧ (c = 123 ↔ k = 7) ∧ (k = 6 ∨ k = 7 ∨ k = 8 ∨ k = 9 ∨ k = 10 ∨ k = 4 → w = 1) ∧ (k = 4 → c = 91 ∧ ¬ t[p + 1]? = some 94) ∧ (k = 5 → c = 91 ∧ t[p + 1]? = some 94 ∧ w = 2) ∧ ((c = 91 ∨ (c = 92 ∧ (t[p + 1]? = some 112 ∨ t[p + 1]? = some 80))) ↔ (k = 4 ∨ k = 5 ∨ k = 2 ∨ k = 3))
theorem KC_s {t : List Nat} {p c k w : Nat} (h1 : c ≠ 91) (h2 : c ≠ 92) (e : (c = 93 ↔ k = 6) ∧ (c = 45 ↔ k = 9) ∧ (c = 125 ↔ k = 8) ∧ (c = 38 ↔ k = 10) ∧ (c = 123 ↔ k = 7)) (hk : k ≠ 2 ∧ k ≠ 3 ∧ k ≠ 4 ∧ k ≠ 5) (hw : w = 1) : KC t p c k w :=
  ⟨e.1, e.2.1, e.2.2.1, e.2.2.2.1, e.2.2.2.2, fun _ => hw, fun z => absurd z hk.2.2.1, fun z => absurd z hk.2.2.2, ⟨fun z => by rcases z with z | z; exact absurd z h1; exact absurd z.1 h2, fun z => by omega⟩⟩
theorem KC_p {t : List Nat} {p c k w : Nat} (h1 : c = 91 ∨ (c = 92 ∧ (t[p + 1]? = some 112 ∨ t[p + 1]? = some 80))) (hk : k = 2 ∨ k = 3) : KC t p c k w := by
  have hc : c = 91 ∨ c = 92 := h1.elim Or.inl (fun z => Or.inr z.1)
  exact ⟨by omega, by omega, by omega, by omega, by omega, fun z => by omega, fun z => by omega, fun z => by omega, ⟨fun _ => by omega, fun _ => h1⟩⟩
theorem KC_at {t : List Nat} {p c w : Nat} {q : Nat × Int32} (h : lxAt t p c = some (some q, w)) : KC t p c q.1 w := by
  unfold lxAt at h
  split at h
  · cases h
  split at h
  · cases h; exact KC_s (by omega) (by omega) (by dsimp only; omega) (by dsimp only; omega) rfl
  split at h
  · cases h; exact KC_s (by omega) (by omega) (by dsimp only; omega) (by dsimp only; omega) rfl
  split at h
  · rename_i hc
    unfold lxOpen at h
    split at h
    · rename_i h94
      cases h
      dsimp only
      exact ⟨by omega, by omega, by omega, by omega, by omega, fun z => by omega, fun z => by omega, fun _ => ⟨hc, h94, rfl⟩, ⟨fun _ => by omega, fun _ => Or.inl hc⟩⟩
    · rename_i h94
      split at h
      · exact KC_p (Or.inl hc) (lxOpen2_k h)
      · cases h
        dsimp only
        exact ⟨by omega, by omega, by omega, by omega, by omega, fun _ => rfl, fun _ => ⟨hc, h94⟩, fun z => by omega, ⟨fun _ => by omega, fun _ => Or.inl hc⟩⟩
  split at h
  · rename_i hc
    split at h
    · rename_i hp
      refine KC_p (Or.inr ⟨hc, hp⟩) ?_
      unfold lxName lxName2 at h
      split at h
      · exact lxProp_k h
      · cases h
    · rename_i hp
      have hk := lxEsc_k h
      rw [hk]
      exact ⟨by omega, by omega, by omega, by omega, by omega, fun z => by omega, fun z => by omega, fun z => by omega, ⟨fun z => by rcases z with z | z; omega; exact absurd z.2 hp, fun z => by omega⟩⟩
  split at h
  · cases h; exact KC_s (by omega) (by omega) (by dsimp only; omega) (by dsimp only; omega) rfl
  split at h
  · cases h
  split at h
  · cases h; exact KC_s (by omega) (by omega) (by dsimp only; omega) (by dsimp only; omega) rfl
  split at h
  · cases h; exact KC_s (by omega) (by omega) (by dsimp only; omega) (by dsimp only; omega) rfl
  · cases h; exact KC_s (by omega) (by omega) (by dsimp only; omega) (by dsimp only; omega) rfl
theorem kd_at {tk : List (Nat × Int32)} {i : Nat} {q : Nat × Int32} (h : tk[i]? = some q) : kd tk i = q.1 ∧ vl tk i = q.2 := by unfold kd vl; rw [h]; exact ⟨rfl, rfl⟩
theorem kd_no {tk : List (Nat × Int32)} {i : Nat} (h : tk.length ≤ i) : kd tk i = 0 := by unfold kd; rw [List.getElem?_eq_none h]
/-- the token that comes next -/
theorem pk {t : List Nat} {k nx : Nat} {tk : List (Nat × Int32)} (h : lxS t k = some (tk.drop nx)) : (t[pSp t k]? = none ∧ tk.length ≤ nx) ∨ ∃ c q w, t[pSp t k]? = some c ∧ lxAt t (pSp t k) c = some (some q, w) ∧ tk[nx]? = some q ∧ lxS t (pSp t k + w) = some (tk.drop (nx + 1)) ∧ nx < tk.length := by
  rw [← lxS_sp] at h
  have hns := pSp_ns t k
  cases hc : t[pSp t k]? with
  | none =>
    rw [lxS_end hc] at h
    have h := Option.some.inj h
    have hl := congrArg List.length h
    rw [List.length_drop] at hl
    have e0 : ([] : List (Nat × Int32)).length = 0 := rfl
    exact Or.inl ⟨rfl, by omega⟩
  | some c =>
    rw [lxS_at hc] at h
    cases hx : lxAt t (pSp t k) c with
    | none => rw [hx] at h; cases h
    | some y =>
      obtain ⟨q, w⟩ := y
      cases q with
      | none => exact absurd (by rw [hc, lxAt_none hx]) hns
      | some q =>
        rw [hx] at h
        dsimp only at h
        cases hs : lxS t (pSp t k + w) with
        | none => rw [hs] at h; cases h
        | some L =>
          rw [hs] at h
          have h : q :: L = tk.drop nx := Option.some.inj h
          have hnx : nx < tk.length := by
            have hl := congrArg List.length h
            rw [List.length_drop, List.length_cons] at hl
            omega
          rw [List.drop_eq_getElem_cons hnx] at h
          have h1 : q = tk[nx] := (List.cons.inj h).1
          have h2 : L = tk.drop (nx + 1) := (List.cons.inj h).2
          exact Or.inr ⟨c, q, w, rfl, hx, by rw [h1]; exact List.getElem?_eq_getElem hnx, by rw [hs, h2], hnx⟩
theorem pkk {t : List Nat} {k nx : Nat} {tk : List (Nat × Int32)} (h : lxS t k = some (tk.drop nx)) : (t[pSp t k]? = some 93 ↔ kd tk nx = 6) ∧ (t[pSp t k]? = some 45 ↔ kd tk nx = 9) ∧ (t[pSp t k]? = some 125 ↔ kd tk nx = 8) ∧ ((t[pSp t k]? = some 91 ∨ pA t (pSp t k)) ↔ (kd tk nx = 4 ∨ kd tk nx = 5 ∨ kd tk nx = 2 ∨ kd tk nx = 3)) ∧ ((t[pSp t k]? = some 45 ∨ t[pSp t k]? = some 125) → lxS t (pSp t k + 1) = some (tk.drop (nx + 1)) ∧ nx < tk.length) ∧ (rc t (pSp t k) = none → kd tk nx ≠ 1) ∧ (∀ a k1, rc t (pSp t k) = some (a, k1) → kd tk nx = 1 ∧ nV (vl tk nx) = a ∧ lxS t k1 = some (tk.drop (nx + 1)) ∧ nx < tk.length) := by
  rcases pk h with ⟨hc, hn⟩ | ⟨c, q, w, hc, hx, hq, hs, hn⟩
  · rw [hc, kd_no hn]
    generalize pSp t k = p at *
    refine ⟨⟨fun z => (by cases z), fun z => (by cases z)⟩, ⟨fun z => (by cases z), fun z => (by cases z)⟩, ⟨fun z => (by cases z), fun z => (by cases z)⟩, ⟨fun z => ?_, fun z => by omega⟩, fun z => ?_, fun _ z => (by cases z), fun a k1 z => ?_⟩
    · rcases z with z | z | z
      · cases z
      · rw [hc] at z; cases z.1
      · rw [hc] at z; cases z.1
    · rcases z with z | z <;> cases z
    · unfold rc at z; rw [hc] at z; cases z
  · have hk := kd_at hq
    obtain ⟨k1, k2, k3, k4, k5, k6, k7, k8, k9⟩ := KC_at hx
    rw [hk.1, hk.2]
    generalize pSp t k = p at *
    have ec : ∀ a, t[p]? = some a ↔ c = a := fun a => by rw [hc]; exact ⟨fun z => Option.some.inj z, fun z => by rw [z]⟩
    refine ⟨(ec 93).trans k1, (ec 45).trans k2, (ec 125).trans k3, Iff.trans ?_ k9, fun z => ?_, fun z hz => ?_, fun a kk z => ?_⟩
    · constructor
      · rintro (z | z | z)
        · exact Or.inl ((ec 91).mp z)
        · exact Or.inl ((ec 91).mp z.1)
        · exact Or.inr ⟨(ec 92).mp z.1, z.2⟩
      · rintro (z | z)
        · exact Or.inl ((ec 91).mpr z)
        · exact Or.inr (Or.inr ⟨(ec 92).mpr z.1, z.2⟩)
    · have hw : w = 1 := by
        rcases z with z | z
        · exact k6 (by have := k2.mp ((ec 45).mp z); omega)
        · exact k6 (by have := k3.mp ((ec 125).mp z); omega)
      rw [hw] at hs
      exact ⟨hs, hn⟩
    · unfold rc at z
      rw [hc] at z
      dsimp only at z
      obtain ⟨qk, qv⟩ := q
      have hz : qk = 1 := hz
      subst hz
      rw [hx] at z
      cases z
    · unfold rc at z
      rw [hc] at z
      dsimp only at z
      obtain ⟨qk, qv⟩ := q
      rw [hx] at z
      split at z
      · rename_i v w2 hz
        cases hz
        cases z
        exact ⟨rfl, rfl, hs, hn⟩
      · cases z
/-- two steps that go side by side -/
def oR (t : List Nat) (tk : List (Nat × Int32)) (nx : Nat) (x y : Option rS) : Prop := (x = none ∧ y = none) ∨ ∃ B d k n V, x = some (B, d, k, V) ∧ y = some (B, d, n, V) ∧ lxS t k = some (tk.drop n) ∧ nx < n ∧ n ≤ tk.length
theorem oR_join {t : List Nat} {tk : List (Nat × Int32)} {nx k n d : Nat} {B : Nat → Br} {I : List Nat × List Nat} {z : Bool} (h : lxS t k = some (tk.drop n)) (h1 : nx < n) (h2 : n ≤ tk.length) : oR t tk nx (rJoin B d k I z) (rJoin B d n I z) := by
  cases d with
  | zero => exact Or.inr ⟨_, _, _, _, _, rfl, rfl, h, h1, h2⟩
  | succ j =>
    rw [rJoin_S, rJoin_S]
    split
    · exact Or.inr ⟨_, _, _, _, _, rfl, rfl, h, h1, h2⟩
    · exact Or.inl ⟨rfl, rfl⟩
theorem oR_chr {t : List Nat} {tk : List (Nat × Int32)} {nx p d : Nat} {B : Nat → Br} (hp : pSp t p = p) (h : lxS t p = some (tk.drop nx)) (hk : kd tk nx = 1) : oR t tk nx (pChr t B d p) (rChar tk B d nx) := by
  have e1 := pkk h
  rw [hp] at e1
  cases hc : rc t p with
  | none => exact absurd hk (e1.2.2.2.2.2.1 hc)
  | some q =>
    obtain ⟨a, k1⟩ := q
    obtain ⟨f1, f2, f3, f4⟩ := e1.2.2.2.2.2.2 a k1 hc
    have e2 := pkk f3
    unfold pChr rChar
    rw [hc]
    dsimp only
    by_cases h45 : t[pSp t k1]? = some 45
    · have k9 := e2.2.1.mp h45
      obtain ⟨g1, g2⟩ := e2.2.2.2.2.1 (Or.inl h45)
      have e3 := pkk g1
      by_cases h93 : t[pSp t (pSp t k1 + 1)]? = some 93
      · have k6 := e3.1.mp h93
        rw [if_neg (fun z => z.2 h93), if_pos (Or.inr k6), f2]
        exact oR_join f3 (by omega) (by omega)
      · have k6 : ¬ kd tk (nx + 2) = 6 := fun z => h93 (e3.1.mpr z)
        rw [if_pos ⟨h45, h93⟩, if_neg (by rintro (z | z); exact z k9; exact k6 z), f2]
        cases hc2 : rc t (pSp t (pSp t k1 + 1)) with
        | none =>
          rw [if_pos (Or.inl (e3.2.2.2.2.2.1 hc2))]
          exact Or.inl ⟨rfl, rfl⟩
        | some q2 =>
          obtain ⟨b, k2⟩ := q2
          obtain ⟨u1, u2, u3, u4⟩ := e3.2.2.2.2.2.2 b k2 hc2
          have u2 : nV (vl tk (nx + 2)) = b := u2
          have u1 : kd tk (nx + 2) = 1 := u1
          dsimp only
          rw [u2]
          by_cases hab : a ≤ b
          · rw [if_pos hab, if_neg (by rintro (z | z); exact z u1; omega)]
            exact oR_join u3 (by omega) (by omega)
          · rw [if_neg hab, if_pos (Or.inr (by omega))]
            exact Or.inl ⟨rfl, rfl⟩
    · have k9 : ¬ kd tk (nx + 1) = 9 := fun z => h45 (e2.2.1.mpr z)
      rw [if_neg (fun z => h45 z.1), if_pos (Or.inl k9), f2]
      exact oR_join f3 (by omega) (by omega)
theorem rWid_0 {tk : List (Nat × Int32)} {nx : Nat} (h : ¬ kd tk (nx + 1) = 1) : rWid tk nx = 0 := by unfold rWid; rw [if_neg h]
theorem rWid_1 {tk : List (Nat × Int32)} {nx : Nat} (h : kd tk (nx + 1) = 1) (h2 : ¬ kd tk (nx + 2) = 1) : rWid tk nx = 1 := by unfold rWid; rw [if_pos h, if_neg h2]
theorem rWid_2 {tk : List (Nat × Int32)} {nx : Nat} (h : kd tk (nx + 1) = 1) (h2 : kd tk (nx + 2) = 1) (h3 : ¬ kd tk (nx + 3) = 1) : rWid tk nx = 2 := by unfold rWid; rw [if_pos h, if_pos h2, if_neg h3]
theorem rWid_3 {tk : List (Nat × Int32)} {nx : Nat} (h : kd tk (nx + 1) = 1) (h2 : kd tk (nx + 2) = 1) (h3 : kd tk (nx + 3) = 1) : rWid tk nx = 3 := by unfold rWid; rw [if_pos h, if_pos h2, if_pos h3]
theorem oR_str {t : List Nat} {tk : List (Nat × Int32)} {nx p d : Nat} {B : Nat → Br} (h : lxS t (p + 1) = some (tk.drop (nx + 1))) : oR t tk nx (pStr t B d p) (rStr tk B d nx) := by
  have e1 := pkk h
  unfold pStr rStr
  rw [pRd_S]
  by_cases b1 : t[pSp t (p + 1)]? = some 125
  · have k8 := e1.2.2.1.mp b1
    rw [if_pos b1]
    dsimp only
    rw [if_pos b1, if_pos (Or.inl (rWid_0 (by omega)))]
    exact Or.inl ⟨rfl, rfl⟩
  rw [if_neg b1]
  cases hc1 : rc t (pSp t (p + 1)) with
  | none =>
    rw [if_pos (Or.inl (rWid_0 (e1.2.2.2.2.2.1 hc1)))]
    exact Or.inl ⟨rfl, rfl⟩
  | some q1 =>
  obtain ⟨a, k1⟩ := q1
  obtain ⟨f1, f2, f3, f4⟩ := e1.2.2.2.2.2.2 a k1 hc1
  have e2 := pkk f3
  dsimp only
  rw [pRd_S]
  by_cases b2 : t[pSp t k1]? = some 125
  · have k8 : kd tk (nx + 2) = 8 := e2.2.2.1.mp b2
    obtain ⟨g1, g2⟩ := e2.2.2.2.2.1 (Or.inr b2)
    rw [if_pos b2]
    dsimp only
    have hw := rWid_1 (tk := tk) (nx := nx) f1 (by omega)
    rw [if_pos b2, hw, if_neg (by rintro (z | z); cases z; exact z k8), if_pos rfl, f2]
    exact oR_join g1 (by omega) (by omega)
  rw [if_neg b2]
  cases hc2 : rc t (pSp t k1) with
  | none =>
    have hw := rWid_1 (tk := tk) (nx := nx) f1 (e2.2.2.2.2.2.1 hc2)
    rw [hw, if_pos (Or.inr (fun z => b2 (e2.2.2.1.mpr z)))]
    exact Or.inl ⟨rfl, rfl⟩
  | some q2 =>
  obtain ⟨b, k2⟩ := q2
  obtain ⟨u1, u2, u3, u4⟩ := e2.2.2.2.2.2.2 b k2 hc2
  have e3 := pkk u3
  dsimp only
  rw [pRd_S]
  by_cases b3 : t[pSp t k2]? = some 125
  · have k8 : kd tk (nx + 3) = 8 := e3.2.2.1.mp b3
    obtain ⟨g1, g2⟩ := e3.2.2.2.2.1 (Or.inr b3)
    rw [if_pos b3]
    dsimp only
    have hw := rWid_2 (tk := tk) (nx := nx) f1 u1 (by omega)
    rw [if_pos b3, hw, if_neg (by rintro (z | z); cases z; exact z k8), if_neg (by decide), f2, show nx + 2 = nx + 1 + 1 from rfl, u2]
    exact oR_join g1 (by omega) (by omega)
  rw [if_neg b3]
  cases hc3 : rc t (pSp t k2) with
  | none =>
    have hw := rWid_2 (tk := tk) (nx := nx) f1 u1 (e3.2.2.2.2.2.1 hc3)
    rw [hw, if_pos (Or.inr (fun z => b3 (e3.2.2.1.mpr z)))]
    exact Or.inl ⟨rfl, rfl⟩
  | some q3 =>
  obtain ⟨c, k3⟩ := q3
  obtain ⟨v1, v2, v3, v4⟩ := e3.2.2.2.2.2.2 c k3 hc3
  have e4 := pkk v3
  have hw := rWid_3 (tk := tk) (nx := nx) f1 u1 v1
  dsimp only
  show oR t tk nx (if t[pSp t k3]? = some 125 then pStF B d (pSp t k3) [a, b, c] else none) _
  by_cases b4 : t[pSp t k3]? = some 125
  · have k8 : kd tk (nx + 4) = 8 := e4.2.2.1.mp b4
    obtain ⟨g1, g2⟩ := e4.2.2.2.2.1 (Or.inr b4)
    rw [if_pos b4, hw, if_neg (by rintro (z | z); cases z; exact z k8), if_neg (by decide), if_pos rfl, f2, show nx + 2 = nx + 1 + 1 from rfl, u2, show nx + 3 = nx + 1 + 1 + 1 from rfl, v2]
    exact oR_join g1 (by omega) (by omega)
  · rw [if_neg b4, hw, if_pos (Or.inr (fun z => b4 (e4.2.2.1.mpr z)))]
    exact Or.inl ⟨rfl, rfl⟩
theorem oR_end {t : List Nat} {tk : List (Nat × Int32)} {nx p d : Nat} {B : Nat → Br} (h : lxS t (p + 1) = some (tk.drop (nx + 1))) (hn : nx < tk.length) : oR t tk nx (rEnd B d p) (rEnd B d nx) := by
  cases d with
  | zero => exact Or.inl ⟨rfl, rfl⟩
  | succ j =>
    by_cases ho : (B j).2.1 = true
    · by_cases hs : (B j).1.2 = []
      · rw [rEnd_T1 ho hs, rEnd_T1 ho hs]
        exact oR_join h (by omega) (by omega)
      · rw [rEnd_T0 ho hs, rEnd_T0 ho hs]
        exact Or.inl ⟨rfl, rfl⟩
    · have ho : (B j).2.1 = false := by cases hz : (B j).2.1 with | true => exact absurd hz ho | false => rfl
      rw [rEnd_F ho, rEnd_F ho]
      exact oR_join h (by omega) (by omega)
theorem oR_sign {t : List Nat} {tk : List (Nat × Int32)} {nx p j w : Nat} {B : Nat → Br} (h : lxS t (p + 1) = some (tk.drop (nx + 1))) (hn : nx < tk.length) : oR t tk nx (if (B j).2.2.2.1 = true ∧ (t[pSp t (p + 1)]? = some 91 ∨ pA t (pSp t (p + 1))) then some (bUp B j ((B j).1, (B j).2.1, (B j).2.2.1, (B j).2.2.2.1, w), j + 1, pSp t (p + 1), ([], [])) else none) (rSign tk B (j + 1) nx w) := by
  have e1 := pkk h
  unfold rSign
  dsimp only
  by_cases hb : (B j).2.2.2.1 = true ∧ (t[pSp t (p + 1)]? = some 91 ∨ pA t (pSp t (p + 1)))
  · rw [if_pos hb, if_pos ⟨hb.1, e1.2.2.2.1.mp hb.2⟩]
    exact Or.inr ⟨_, _, _, _, _, rfl, rfl, by rw [lxS_sp]; exact h, by omega, by omega⟩
  · rw [if_neg hb, if_neg (fun z => hb ⟨z.1, e1.2.2.2.1.mpr z.2⟩)]
    exact Or.inl ⟨rfl, rfl⟩
theorem pSgn_S (t : List Nat) (B : Nat → Br) (j p : Nat) : pSgn t B (j + 1) p = if t[p]? = some 45 ∧ ((B j).2.2.1 = 0 ∨ t[pSp t (p + 1)]? = some 93) then rJoin B (j + 1) (p + 1) (rRan 45 45) false
    else if (B j).2.2.2.1 = true ∧ (t[pSp t (p + 1)]? = some 91 ∨ pA t (pSp t (p + 1))) then some (bUp B j ((B j).1, (B j).2.1, (B j).2.2.1, (B j).2.2.2.1, if t[p]? = some 45 then 2 else 1), j + 1, pSp t (p + 1), ([], [])) else none := rfl
/-- the two steps go side by side -/
theorem oR_step {t : List Nat} (ht : ∀ x ∈ t, x < 1114112) {tk : List (Nat × Int32)} {nx k d : Nat} {B : Nat → Br} (h : lxS t k = some (tk.drop nx)) : oR t tk nx (pItem t B d k) (rStep tk B d nx) := by
  rcases pk h with ⟨hc, hn⟩ | ⟨c, q, w, hc, hx, hq, hs, hn⟩
  · have e1 : pItem t B d k = none := by
      unfold pItem pX
      rw [hc]
    have e2 : rStep tk B d nx = none := by
      have h0 := kd_no hn
      by_cases hd : d = 0
      · subst hd
        exact rStep_no (by omega)
      · exact rStep_0 h0 hd
    exact Or.inl ⟨e1, e2⟩
  · have hk := kd_at hq
    have hpx : pX t (pSp t k) = some (some q, w) := by rw [pX_at hc]; exact hx
    have hok := pX_ok ht hpx
    obtain ⟨k1, k2, k3, k4, k5, k6, k7, k8, k9⟩ := KC_at hx
    have hsp := lxS_sp t k
    have hns := pSp_ns t k
    rw [pItem_k hpx]
    rw [h] at hsp
    generalize pSp t k = p at *
    have hpp := pSp_no hns
    unfold pKind
    by_cases hd0 : d = 0 ∧ ¬ (q.1 = 4 ∨ q.1 = 5 ∨ q.1 = 2 ∨ q.1 = 3)
    · rw [if_pos hd0]
      obtain ⟨hd1, hd2⟩ := hd0
      subst hd1
      rw [rStep_no (by rw [hk.1]; exact hd2)]
      exact Or.inl ⟨rfl, rfl⟩
    rw [if_neg hd0]
    have hdn : ¬ (q.1 = 4 ∨ q.1 = 5 ∨ q.1 = 2 ∨ q.1 = 3) → d ≠ 0 := fun z y => hd0 ⟨y, z⟩
    by_cases q1 : q.1 = 1
    · rw [if_pos q1, rStep_1 (hk.1.trans q1) (hdn (by omega))]
      exact oR_chr hpp hsp (hk.1.trans q1)
    rw [if_neg q1]
    by_cases q2 : q.1 = 2 ∨ q.1 = 3
    · rw [if_pos q2]
      obtain ⟨qk, qv⟩ := q
      have hk2 : vl tk nx = qv := hk.2
      rcases q2 with q2 | q2
      · have q2 : qk = 2 := q2
        subst q2
        rw [rStep_2 hk.1]
        unfold rProp
        rw [pTab_f, hk2, if_neg (by decide)]
        exact oR_join hs (by omega) (by omega)
      · have q2 : qk = 3 := q2
        subst q2
        rw [rStep_3 hk.1]
        unfold rProp
        rw [pTab_t, hk2, if_pos rfl]
        exact oR_join hs (by omega) (by omega)
    rw [if_neg q2]
    by_cases q4 : q.1 = 4 ∨ q.1 = 5
    · rw [if_pos q4]
      unfold pOpen
      rcases q4 with q4 | q4
      · have a1 := k7 q4
        have a2 := k6 (by omega)
        rw [a2] at hs
        rw [rStep_4 (hk.1.trans q4), if_neg a1.2, decide_eq_false a1.2]
        unfold rOpen
        split
        · exact Or.inr ⟨_, _, _, _, _, rfl, rfl, hs, by omega, by omega⟩
        · exact Or.inl ⟨rfl, rfl⟩
      · have a1 := k8 q4
        rw [a1.2.2] at hs
        rw [rStep_5 (hk.1.trans q4), if_pos a1.2.1, decide_eq_true a1.2.1]
        unfold rOpen
        split
        · exact Or.inr ⟨_, _, _, _, _, rfl, rfl, hs, by omega, by omega⟩
        · exact Or.inl ⟨rfl, rfl⟩
    rw [if_neg q4]
    have hd : d ≠ 0 := hdn (by omega)
    by_cases q6 : q.1 = 6
    · rw [if_pos q6, rStep_6 (hk.1.trans q6) hd]
      rw [k6 (by omega)] at hs
      exact oR_end hs hn
    rw [if_neg q6]
    by_cases q7 : q.1 = 7
    · rw [if_pos q7, rStep_7 (hk.1.trans q7) hd]
      rw [k6 (by omega)] at hs
      exact oR_str hs
    rw [if_neg q7]
    obtain ⟨j, hj⟩ : ∃ j, d = j + 1 := ⟨d - 1, by omega⟩
    subst hj
    by_cases q9 : q.1 = 9 ∨ q.1 = 10
    · rw [if_pos q9, pSgn_S]
      rw [k6 (by omega)] at hs
      have e1 := pkk hs
      rcases q9 with q9 | q9
      · have c45 : t[p]? = some 45 := by rw [hc, k2.mpr q9]
        rw [rStep_9 (hk.1.trans q9) hd]
        have er : rHyp tk B (j + 1) nx = if (B j).2.2.1 = 0 ∨ kd tk (nx + 1) = 6 then rJoin B (j + 1) (nx + 1) (rRan 45 45) false else rSign tk B (j + 1) nx 2 := rfl
        rw [er]
        by_cases hy : (B j).2.2.1 = 0 ∨ t[pSp t (p + 1)]? = some 93
        · rw [if_pos ⟨c45, hy⟩, if_pos (hy.imp id e1.1.mp)]
          exact oR_join hs (by omega) (by omega)
        · have hy2 : ¬ ((B j).2.2.1 = 0 ∨ kd tk (nx + 1) = 6) := fun z => hy (z.imp id e1.1.mpr)
          rw [if_neg (fun z => hy z.2), if_neg hy2, if_pos c45]
          exact oR_sign hs hn
      · have c45 : ¬ t[p]? = some 45 := by rw [hc]; intro z; have := k2.mp (Option.some.inj z); omega
        rw [rStep_10 (hk.1.trans q9) hd, if_neg (fun z => c45 z.1), if_neg c45]
        exact oR_sign hs hn
    rw [if_neg q9]
    have h8 : kd tk nx = 8 := by have := hok.1.1; have := hok.1.2.1; rw [hk.1]; omega
    rw [rStep_8 h8 hd]
    exact Or.inl ⟨rfl, rfl⟩

