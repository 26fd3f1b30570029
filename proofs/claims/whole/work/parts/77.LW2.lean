/-! the law: what holds between the calls: written by wip/gen/lw2.py -/
theorem hCP.off {h h' : wH} {t : List Nat} {G : gG} (a : hCP h t G) (c : wOff h h' 57 11) : hCP h' t G := by
  obtain ⟨sp, Es, Ss, pr, a1, a2, ⟨f, a3, a3'⟩, a4, a5, ⟨E, S, a6⟩, ⟨o, a7⟩, a8, a9, a10, a11, a12⟩ := a
  have i2 := P2_in a10
  refine ⟨sp, Es, Ss, pr, (c _ (by omega)).trans a1, a2.off c (by omega), ⟨f, (c _ (by omega)).trans a3, a3'⟩, fun r hr => ?_, a5.off c (by omega), ⟨E, S, a6.off c (by omega)⟩, ⟨o, a7.off c (by omega)⟩, a8.off c (by omega), a9, a10, a11, a12⟩
  have i3 := P2_in (a9 r hr)
  exact (a4 r hr).off c (by omega)
theorem hMO.off {h h' : wH} {t : List Nat} {EE SS : Nat → List Nat} (a : hMO h t EE SS) (c : wOff h h' 0 57) : hMO h' t EE SS := by
  obtain ⟨⟨ap, gd, dp, wr, fi, a1⟩, a2, a3, a4⟩ := a
  exact ⟨⟨ap, gd, dp, wr, fi, (c _ (by omega)).trans a1⟩, a2.off c (by omega), a3.off c (by omega), a4.off c (by omega)⟩
/-- class and reference stand alike -/
def LR (h : wH) (t : List Nat) (G : gG) (EE SS : Nat → List Nat) : Prop := hCP h t G ∧ hMO h t EE SS ∧ gOk t G ∧ (∀ r, r < 3 → EE r = (G r).1 ∧ sR (G r).2 (SS r)) ∧ EE 11 = [0, 1114112] ∧ SS 11 = []
theorem LR.mok {h : wH} {t : List Nat} {G : gG} {EE SS : Nat → List Nat} (a : LR h t G EE SS) : mOk t EE SS := by
  obtain ⟨-, -, g, r, e1, e2⟩ := a
  refine ⟨g.1, fun j hj => ?_, e1, e2⟩
  have q := g.2 j hj
  have p := r j hj
  rw [p.1, ← sR_len p.2]
  exact ⟨q.1, q.2.1, sR_sOk p.2 q.2.2.2.1, q.2.2.2.2⟩
/-- one register is new -/
theorem rel_up {G : gG} {EE SS EE' SS' : Nat → List Nat} {r : Nat} {v : List Nat × List Nat} (h : ∀ j, j < 3 → EE j = (G j).1 ∧ sR (G j).2 (SS j)) (h1 : EE' r = v.1) (h2 : sR v.2 (SS' r)) (h3 : ∀ j, j ≠ r → (j < 3 ∨ j = 11) → EE' j = EE j ∧ SS' j = SS j) : ∀ j, j < 3 → EE' j = (gUp G r v j).1 ∧ sR (gUp G r v j).2 (SS' j) := by
  intro j hj
  by_cases hr : j = r
  · subst hr
    rw [gUp_at]
    exact ⟨h1, h2⟩
  · rw [gUp_ne _ _ hr]
    have a := h3 j hr (Or.inl hj)
    have b := h j hj
    exact ⟨a.1.trans b.1, by rw [a.2]; exact b.2⟩
theorem rel_same {G : gG} {EE SS EE' SS' : Nat → List Nat} {r : Nat} (h : ∀ j, j < 3 → EE j = (G j).1 ∧ sR (G j).2 (SS j)) (h1 : EE' r = EE r) (h2 : SS' r = SS r) (h3 : ∀ j, j ≠ r → (j < 3 ∨ j = 11) → EE' j = EE j ∧ SS' j = SS j) : ∀ j, j < 3 → EE' j = (G j).1 ∧ sR (G j).2 (SS' j) := by
  intro j hj
  have b := h j hj
  by_cases hr : j = r
  · subst hr
    rw [h1, h2]
    exact b
  · have a := h3 j hr (Or.inl hj)
    exact ⟨a.1.trans b.1, by rw [a.2]; exact b.2⟩
theorem gOk_up {t : List Nat} {G : gG} {r : Nat} {v : List Nat × List Nat} (g : gOk t G) (h : eOk v.1 ∧ v.1.length ≤ 200 ∧ eAsc v.2 ∧ (∀ y ∈ v.2, sOk y) ∧ v.2.length ≤ 8) : gOk t (gUp G r v) := by
  refine ⟨g.1, fun j hj => ?_⟩
  by_cases hr : j = r
  · subst hr
    rw [gUp_at]
    exact h
  · rw [gUp_ne _ _ hr]
    exact g.2 j hj
theorem dg_b (d : Nat) (h : d < 16) : dg d < 1114112 := by unfold dg; split <;> omega
theorem hx_b (c : Nat) : ∀ x ∈ hx c, x < 1114112 := by
  have go : ∀ k, dg (c / 2 ^ k % 16) < 1114112 := fun k => dg_b _ (Nat.mod_lt _ (by decide))
  have m : ∀ l : List Nat, ∀ x ∈ l.map (fun k => dg (c / 2 ^ k % 16)), x < 1114112 := by
    intro l x hx9
    obtain ⟨k, _, hk⟩ := List.mem_map.mp hx9
    rw [← hk]
    exact go k
  unfold hx
  (repeat' split) <;> first | exact m [20, 16, 12, 8, 4, 0] | exact m [16, 12, 8, 4, 0] | exact m [12, 8, 4, 0] | exact m [8, 4, 0] | exact m [4, 0] | exact m [0]
theorem cT_b (c : Nat) : ∀ x ∈ cT c, x < 1114112 := by
  unfold cT
  intro x hx9
  split at hx9
  · simp only [List.mem_append, List.mem_singleton] at hx9
    rcases hx9 with (((z | z) | z) | z) | z
    · omega
    · omega
    · omega
    · exact hx_b c x z
    · omega
  · split at hx9
    · simp only [List.mem_append, List.mem_singleton] at hx9
      omega
    · rw [List.mem_singleton] at hx9
      omega
theorem rT_b (a b : Nat) : ∀ x ∈ rT a b, x < 1114112 := by
  unfold rT
  intro x hx9
  rcases List.mem_append.mp hx9 with z | z
  · exact cT_b a x z
  · split at z
    · cases z
    · rcases List.mem_append.mp z with y | y
      · split at y
        · rw [List.mem_singleton] at y; omega
        · cases y
      · exact cT_b b x y
theorem eT_b : ∀ (n : Nat) (E : List Nat), E.length ≤ n → ∀ x ∈ eT E, x < 1114112
  | 0, E, h => by
    have : E = [] := List.length_eq_zero_iff.mp (by omega)
    subst this
    intro x hx9
    cases hx9
  | n + 1, E, h => by
    match E, h with
    | [], _ => intro x hx9; cases hx9
    | [a], _ => intro x hx9; cases hx9
    | a :: b :: r, h =>
      intro x hx9
      have hx9 : x ∈ rT a (b - 1) ++ eT r := hx9
      rcases List.mem_append.mp hx9 with z | z
      · exact rT_b a (b - 1) x z
      · exact eT_b n r (by simp at h; omega) x z
theorem sT_b (k : Nat) : ∀ x ∈ sT k, x < 1114112 := by
  unfold sT
  intro x hx9
  simp only [List.mem_append, List.mem_singleton] at hx9
  rcases hx9 with (((z | z) | z) | z) | z
  · omega
  · exact cT_b _ x z
  · exact cT_b _ x z
  · split at z
    · cases z
    · exact cT_b _ x z
  · omega
theorem pT_b (E S : List Nat) : ∀ x ∈ pT E S, x < 1114112 := by
  unfold pT
  intro x hx9
  simp only [List.mem_append, List.mem_singleton, List.mem_flatMap] at hx9
  rcases hx9 with z | z | ⟨k, _, z⟩ | z
  · omega
  · exact eT_b _ E (Nat.le_refl _) x z
  · exact sT_b k x z
  · omega
theorem tM_eq {E S S' t : List Nat} {k n : Nat} (h : sR S S') : tM E S t k n = tM E S' t k n := by
  have go : ∀ y, decide (y ∈ S) = decide (y ∈ S') := fun y => decide_eq_decide.mpr (h.2.2 y)
  unfold tM
  split
  · rfl
  · split
    · exact go _
    · rfl
  · split
    · exact go _
    · rfl
  · rfl
theorem sB0_eq {E S S' t : List Nat} (h : sR S S') : ∀ n k, sB0 E S t n k = sB0 E S' t n k
  | 0, k => rfl
  | n + 1, k => by
    unfold sB0
    rw [tM_eq h, tM_eq h, tM_eq h, sB0_eq h n (k + 1)]
theorem sE_eq {E S S' t : List Nat} (h : sR S S') : ∀ n k R g, sE E S t n k R g = sE E S' t n k R g
  | 0, k, R, g => rfl
  | n + 1, k, R, g => by
    unfold sE
    rw [tM_eq h, tM_eq h, tM_eq h, sE_eq h n (k + 1), sE_eq h n (k + 1)]
theorem rg_c (x : Int32) : (∃ r, r < 3 ∧ x = nI r) ∨ ¬ (0 ≤ x ∧ x < nI 3) := by
  by_cases h : 0 ≤ x ∧ x < nI 3
  · obtain ⟨j, hj, rfl⟩ := nI_of (x := x) (Int32.not_lt.mpr h.1)
    exact Or.inl ⟨j, (nI_ltI hj (by decide)).mp h.2, rfl⟩
  · exact Or.inr h
theorem cp_c (x : Int32) : (∃ c, c < 1114112 ∧ x = nI c) ∨ ¬ (0 ≤ x ∧ x < nI 1114112) := by
  by_cases h : 0 ≤ x ∧ x < nI 1114112
  · obtain ⟨j, hj, rfl⟩ := nI_of (x := x) (Int32.not_lt.mpr h.1)
    exact Or.inl ⟨j, (nI_ltI hj (by decide)).mp h.2, rfl⟩
  · exact Or.inr h
theorem le_c (x : Int32) {n : Nat} (hn : n < 2 ^ 31) : (∃ k, k ≤ n ∧ x = nI k) ∨ ¬ (0 ≤ x ∧ x ≤ nI n) := by
  by_cases h : 0 ≤ x ∧ x ≤ nI n
  · obtain ⟨j, hj, rfl⟩ := nI_of (x := x) (Int32.not_lt.mpr h.1)
    exact Or.inl ⟨j, (nI_leI hj hn).mp h.2, rfl⟩
  · exact Or.inr h
theorem and_31 (x : Int32) : ∃ k, k < 32 ∧ x &&& nI 31 = nI k := by
  refine ⟨(x.toBitVec &&& 31#32).toNat, ?_, ?_⟩
  · have h : (x.toBitVec &&& 31#32).toNat = x.toBitVec.toNat &&& 31 := by rw [BitVec.toNat_and]; rfl
    rw [h]
    have := @Nat.and_le_right x.toBitVec.toNat 31
    omega
  · apply Int32.toBitVec_inj.mp
    show x.toBitVec &&& BitVec.ofNat 32 31 = BitVec.ofNat 32 _
    rw [BitVec.ofNat_toNat]
    simp
theorem lw_lt {L i : Nat} (hL : L ≤ 2048) (hi : i ≤ 2048) : nI L - nI 4 < nI i ↔ L < i + 4 := by
  by_cases h : 4 ≤ L
  · rw [pk_sub h]
    constructor
    · intro z
      have := (nI_ltI (a := L - 4) (b := i) (by omega) (by omega)).mp z
      omega
    · intro z
      exact nI_lt (by omega) (by omega)
  · constructor
    · intro _; omega
    · intro _
      have h2 : nI L - nI 4 < 0 := by
        have h3 : L = 0 ∨ L = 1 ∨ L = 2 ∨ L = 3 := by omega
        rcases h3 with rfl | rfl | rfl | rfl <;> decide
      exact Int32.lt_of_lt_of_le h2 (nI_pos' (by omega))

