/-! the state of the object -/
/-- a bracket: its set, whether it is turned, items, whether a set was last, sign -/
abbrev Br : Type := (List Nat × List Nat) × Bool × Nat × Bool × Nat
def hOB (h : wH) (q b : Nat) (β : Br) : Prop := h[q]? = some (.inr (2, [.ref b, .int (bI β.2.1), .int (nI β.2.2.1), .int (bI β.2.2.2.1), .int (nI β.2.2.2.2)])) ∧ hMS h b β.1.1 β.1.2
/-- the places of the reader's sets -/
def P1 (x : Nat) : Prop := x = 22 ∨ x = 25 ∨ x = 29 ∨ x = 33 ∨ x = 37 ∨ x = 41 ∨ x = 45
theorem P1_dj {x y : Nat} (hx : P1 x) (hy : P1 y) (h : x ≠ y) : x + 3 ≤ y ∨ y + 3 ≤ x := by
  unfold P1 at hx hy
  omega
theorem P1_in {x : Nat} (hx : P1 x) : 22 ≤ x ∧ x + 3 ≤ 48 := by
  unfold P1 at hx
  omega
theorem P1_ob {x k : Nat} (hx : P1 x) (hk : k < 5) : x + 3 ≤ 28 + 4 * k ∨ 28 + 4 * k + 1 ≤ x := by
  unfold P1 at hx
  omega
/-- the places of the registers' sets -/
def P2 (x : Nat) : Prop := x = 4 ∨ x = 7 ∨ x = 10 ∨ x = 54
theorem P2_dj {x y : Nat} (hx : P2 x) (hy : P2 y) (h : x ≠ y) : x + 3 ≤ y ∨ y + 3 ≤ x := by
  unfold P2 at hx hy
  omega
theorem P2_in {x : Nat} (hx : P2 x) : 4 ≤ x ∧ x + 3 ≤ 57 ∧ (x + 3 ≤ 13 ∨ 54 ≤ x) := by
  unfold P2 at hx
  omega
/-- the reader: tokens tk, brackets B, d of them open, next token nx -/
def hPR (h : wH) (tk : List (Nat × Int32)) (B : Nat → Br) (d nx o s v : Nat) (b : Nat → Nat) : Prop :=
  h[13]? = some (.inr (3, [.ref 14, .ref 21, .int (nI d), .int (nI nx), .ref o, .ref s, .ref v])) ∧ (∃ (t l : List Nat) (pos : Nat), hTR h 14 t tk l pos) ∧ (∃ f : Nat → Option Nat, h[21]? = some (.inl (4, 5, .inr (.inr (.inr (.inr f))))) ∧ ∀ k, k < 5 → f k = some (28 + 4 * k)) ∧ (∀ k, k < 5 → hOB h (28 + 4 * k) (b k) (B k)) ∧ (∃ E S, hMS h o E S) ∧ (∃ E S, hMS h s E S) ∧
  P1 o ∧ P1 s ∧ (∀ k, k < 5 → P1 (b k)) ∧ o ≠ s ∧ (∀ k, k < 5 → b k ≠ o ∧ b k ≠ s) ∧ ∀ i j, i < 5 → j < 5 → i ≠ j → b i ≠ b j
def hRd (h : wH) : Prop := ∃ tk B d nx o s v b, hPR h tk B d nx o s v b
theorem hOB.off {h h' : wH} {q b p n : Nat} {β : Br} (a : hOB h q b β) (c : wOff h h' p n) (h1 : q < p ∨ p + n ≤ q) (h2 : b + 3 ≤ p ∨ p + n ≤ b) : hOB h' q b β :=
  ⟨(c q h1).trans a.1, a.2.off c h2⟩
theorem hPR.off {h h' : wH} {p n : Nat} {tk : List (Nat × Int32)} {B : Nat → Br} {d nx o s v : Nat} {b : Nat → Nat} (a : hPR h tk B d nx o s v b) (c : wOff h h' p n) (hd : p + n ≤ 13 ∨ 48 ≤ p) : hPR h' tk B d nx o s v b := by
  obtain ⟨a1, ⟨t, l, pos, a2⟩, ⟨f, a3, a3'⟩, a4, ⟨E1, S1, a5⟩, ⟨E2, S2, a6⟩, a7, a8, a9, a10, a11, a12⟩ := a
  have i1 := P1_in a7
  have i2 := P1_in a8
  refine ⟨(c _ (by omega)).trans a1, ⟨t, l, pos, a2.off c (by omega)⟩, ⟨f, (c _ (by omega)).trans a3, a3'⟩, fun k hk => ?_, ⟨E1, S1, a5.off c (by omega)⟩, ⟨E2, S2, a6.off c (by omega)⟩, a7, a8, a9, a10, a11, a12⟩
  have i3 := P1_in (a9 k hk)
  exact (a4 k hk).off c (by omega) (by omega)
theorem hRd.off {h h' : wH} {p n : Nat} (a : hRd h) (c : wOff h h' p n) (hd : p + n ≤ 13 ∨ 48 ≤ p) : hRd h' := by
  obtain ⟨tk, B, d, nx, o, s, v, b, a⟩ := a
  exact ⟨tk, B, d, nx, o, s, v, b, a.off c hd⟩
theorem hPV.off {h h' : wH} {p q n : Nat} {o : List Nat} (a : hPV h p o) (c : wOff h h' q n) (hd : p + 3 ≤ q ∨ q + n ≤ p) : hPV h' p o := by
  obtain ⟨⟨fl, a1⟩, a2⟩ := a
  exact ⟨⟨fl, (c _ (by omega)).trans a1⟩, a2.off c (by omega)⟩
theorem hPW.off {h h' : wH} {p q n : Nat} {o : List Nat} (a : hPW h p o) (c : wOff h h' q n) (hd : p + 3 ≤ q ∨ q + n ≤ p) : hPW h' p o :=
  ⟨(c _ (by omega)).trans a.1, a.2.off c (by omega)⟩
/-- the registers' values -/
abbrev gG : Type := Nat → List Nat × List Nat
def gUp (G : gG) (r : Nat) (v : List Nat × List Nat) : gG := fun j => if j = r then v else G j
def hCQ (h : wH) (t : List Nat) (G : gG) (sp : Nat) (Es Ss : List Nat) (pr : Nat → Nat) : Prop :=
  h[0]? = some (.inr (6, [.ref 1, .ref 3, .ref 13, .ref 48, .ref 51, .ref sp])) ∧ hCR h 1 t ∧ (∃ f : Nat → Option Nat, h[3]? = some (.inl (3, 3, .inr (.inr (.inr (.inr f))))) ∧ ∀ r, r < 3 → f r = some (pr r)) ∧ (∀ r, r < 3 → hMS h (pr r) (G r).1 (G r).2) ∧ hMS h sp Es Ss ∧ (∃ E S, hMS h 51 E S) ∧ (∃ o, hPV h 48 o) ∧ hRd h ∧
  (∀ r, r < 3 → P2 (pr r)) ∧ P2 sp ∧ (∀ r, r < 3 → pr r ≠ sp) ∧ ∀ i j, i < 3 → j < 3 → i ≠ j → pr i ≠ pr j
def hCP (h : wH) (t : List Nat) (G : gG) : Prop := ∃ sp Es Ss pr, hCQ h t G sp Es Ss pr
theorem hCQ.text {h h' : wH} {t t' : List Nat} {G : gG} {sp : Nat} {Es Ss : List Nat} {pr : Nat → Nat} (a : hCQ h t G sp Es Ss pr) (b : hCR h' 1 t') (c : wOff h h' 1 2) : hCQ h' t' G sp Es Ss pr := by
  obtain ⟨a1, a2, ⟨f, a3, a3'⟩, a4, a5, ⟨E, S, a6⟩, ⟨o, a7⟩, a8, a9, a10, a11, a12⟩ := a
  have i2 := P2_in a10
  refine ⟨(c _ (by omega)).trans a1, b, ⟨f, (c _ (by omega)).trans a3, a3'⟩, fun r hr => ?_, a5.off c (by omega), ⟨E, S, a6.off c (by omega)⟩, ⟨o, a7.off c (by omega)⟩, a8.off c (by omega), a9, a10, a11, a12⟩
  have i3 := P2_in (a9 r hr)
  exact (a4 r hr).off c (by omega)
theorem hCQ.spare {h h' : wH} {t : List Nat} {G : gG} {sp : Nat} {Es Ss E' S' : List Nat} {pr : Nat → Nat} (a : hCQ h t G sp Es Ss pr) (b : hMS h' sp E' S') (c : wOff h h' sp 3) : hCQ h' t G sp E' S' pr := by
  obtain ⟨a1, a2, ⟨f, a3, a3'⟩, a4, a5, ⟨E, S, a6⟩, ⟨o, a7⟩, a8, a9, a10, a11, a12⟩ := a
  have i2 : sp = 4 ∨ sp = 7 ∨ sp = 10 ∨ sp = 54 := a10
  refine ⟨(c _ (by omega)).trans a1, a2.off c (by omega), ⟨f, (c _ (by omega)).trans a3, a3'⟩, fun r hr => ?_, b, ⟨E, S, a6.off c (by omega)⟩, ⟨o, a7.off c (by omega)⟩, a8.off c (by omega), a9, a10, a11, a12⟩
  exact (a4 r hr).off c (P2_dj (a9 r hr) a10 (a11 r hr))
theorem hCQ.alike {h h' : wH} {t : List Nat} {G : gG} {sp : Nat} {Es Ss E' S' : List Nat} {pr : Nat → Nat} (a : hCQ h t G sp Es Ss pr) (b : hMS h' 51 E' S') (c : wOff h h' 51 3) : hCQ h' t G sp Es Ss pr := by
  obtain ⟨a1, a2, ⟨f, a3, a3'⟩, a4, a5, ⟨E, S, a6⟩, ⟨o, a7⟩, a8, a9, a10, a11, a12⟩ := a
  have i2 := P2_in a10
  refine ⟨(c _ (by omega)).trans a1, a2.off c (by omega), ⟨f, (c _ (by omega)).trans a3, a3'⟩, fun r hr => ?_, a5.off c (by omega), ⟨_, _, b⟩, ⟨o, a7.off c (by omega)⟩, a8.off c (by omega), a9, a10, a11, a12⟩
  have i3 := P2_in (a9 r hr)
  exact (a4 r hr).off c (by omega)
theorem hCQ.writer {h h' : wH} {t : List Nat} {G : gG} {sp : Nat} {Es Ss o' : List Nat} {pr : Nat → Nat} (a : hCQ h t G sp Es Ss pr) (b : hPW h' 48 o') (c : wOff h h' 48 3) : hCQ h' t G sp Es Ss pr := by
  obtain ⟨a1, a2, ⟨f, a3, a3'⟩, a4, a5, ⟨E, S, a6⟩, ⟨o, a7⟩, a8, a9, a10, a11, a12⟩ := a
  have i2 := P2_in a10
  refine ⟨(c _ (by omega)).trans a1, a2.off c (by omega), ⟨f, (c _ (by omega)).trans a3, a3'⟩, fun r hr => ?_, a5.off c (by omega), ⟨E, S, a6.off c (by omega)⟩, ⟨_, b.v⟩, a8.off c (by omega), a9, a10, a11, a12⟩
  have i3 := P2_in (a9 r hr)
  exact (a4 r hr).off c (by omega)
theorem hCQ.reader {h h' : wH} {t : List Nat} {G : gG} {sp : Nat} {Es Ss : List Nat} {pr : Nat → Nat} (a : hCQ h t G sp Es Ss pr) (b : hRd h') (c : wOff h h' 13 35) : hCQ h' t G sp Es Ss pr := by
  obtain ⟨a1, a2, ⟨f, a3, a3'⟩, a4, a5, ⟨E, S, a6⟩, ⟨o, a7⟩, a8, a9, a10, a11, a12⟩ := a
  have i2 := P2_in a10
  refine ⟨(c _ (by omega)).trans a1, a2.off c (by omega), ⟨f, (c _ (by omega)).trans a3, a3'⟩, fun r hr => ?_, a5.off c (by omega), ⟨E, S, a6.off c (by omega)⟩, ⟨o, a7.off c (by omega)⟩, b, a9, a10, a11, a12⟩
  have i3 := P2_in (a9 r hr)
  exact (a4 r hr).off c (by omega)
theorem gUp_at (G : gG) (r : Nat) (v : List Nat × List Nat) : gUp G r v r = v := if_pos rfl
theorem gUp_ne (G : gG) {r j : Nat} (v : List Nat × List Nat) (h : j ≠ r) : gUp G r v j = G j := if_neg h
theorem hCQ.reg {h h' : wH} {t : List Nat} {G : gG} {sp r : Nat} {Es Ss E' S' : List Nat} {pr : Nat → Nat} (a : hCQ h t G sp Es Ss pr) (hr : r < 3) (b : hMS h' (pr r) E' S') (c : wOff h h' (pr r) 3) : hCQ h' t (gUp G r (E', S')) sp Es Ss pr := by
  obtain ⟨a1, a2, ⟨f, a3, a3'⟩, a4, a5, ⟨E, S, a6⟩, ⟨o, a7⟩, a8, a9, a10, a11, a12⟩ := a
  have i2 : pr r = 4 ∨ pr r = 7 ∨ pr r = 10 ∨ pr r = 54 := a9 r hr
  refine ⟨(c _ (by omega)).trans a1, a2.off c (by omega), ⟨f, (c _ (by omega)).trans a3, a3'⟩, fun j hj => ?_, a5.off c (P2_dj a10 (a9 r hr) (Ne.symm (a11 r hr))), ⟨E, S, a6.off c (by omega)⟩, ⟨o, a7.off c (by omega)⟩, a8.off c (by omega), a9, a10, a11, a12⟩
  by_cases hjr : j = r
  · subst hjr
    rw [gUp_at]
    exact b
  · rw [gUp_ne _ _ hjr]
    exact (a4 j hj).off c (P2_dj (a9 j hj) (a9 r hr) (a12 j r hj hr hjr))
/-- what the values keep to -/
def gOk (t : List Nat) (G : gG) : Prop := (∀ x ∈ t, x < 1114112) ∧ ∀ r, r < 3 → eOk (G r).1 ∧ (G r).1.length ≤ 200 ∧ eAsc (G r).2 ∧ (∀ y ∈ (G r).2, sOk y) ∧ (G r).2.length ≤ 8
theorem sOk_lt {y : Nat} (h : sOk y) : y < 9223372036854775807 := by
  obtain ⟨a, b, t, ha, hb, ht, rfl⟩ := h
  exact kOf_lt ha hb ht
