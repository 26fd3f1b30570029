/-! the reader's state -/
def bUp (B : Nat → Br) (k : Nat) (β : Br) : Nat → Br := fun j => if j = k then β else B j
theorem bUp_at (B : Nat → Br) (k : Nat) (β : Br) : bUp B k β k = β := if_pos rfl
theorem bUp_ne (B : Nat → Br) {k j : Nat} (β : Br) (h : j ≠ k) : bUp B k β j = B j := if_neg h
theorem bUp_self (B : Nat → Br) (k : Nat) : bUp B k (B k) = B := by
  funext j
  by_cases h : j = k
  · rw [h, bUp_at]
  · rw [bUp_ne _ _ h]
/-- a step's outcome: brackets, how many are open, next token, the value if none is open -/
abbrev rS : Type := (Nat → Br) × Nat × Nat × (List Nat × List Nat)
def rJoin (B : Nat → Br) (d nx : Nat) (I : List Nat × List Nat) (z : Bool) : Option rS := match d with
  | 0 => some (B, 0, nx, I)
  | k + 1 => if (sCmb (B k).2.2.2.2 (B k).1.2 I.2).length ≤ 8 then some (bUp B k ((eCmb (B k).2.2.2.2 (B k).1.1 I.1, sCmb (B k).2.2.2.2 (B k).1.2 I.2), (B k).2.1, (B k).2.2.1 + 1, z, 0), k + 1, nx, ([], [])) else none
def rOpen (B : Nat → Br) (d nx : Nat) (o : Bool) : Option rS := if d < 5 then some (bUp B d (([], []), o, 0, false, 0), d + 1, nx + 1, ([], [])) else none
def rEnd (B : Nat → Br) (d nx : Nat) : Option rS := match d with
  | 0 => none
  | k + 1 => if (B k).2.1 = true then (if (B k).1.2 = [] then rJoin (bUp B k ((eCmb 3 (B k).1.1 [0, 1114112], []), (B k).2)) k (nx + 1) (eCmb 3 (B k).1.1 [0, 1114112], []) true else none) else rJoin B k (nx + 1) (B k).1 true
def rTab (v : Int32) : List Nat := tabL.getD v.toNatClampNeg []
def rProp (tk : List (Nat × Int32)) (B : Nat → Br) (d nx : Nat) (o : Bool) : Option rS := rJoin B d (nx + 1) (if o = true then eCmb 3 (rTab (vl tk nx)) [0, 1114112] else rTab (vl tk nx), []) true
def nV (v : Int32) : Nat := v.toNatClampNeg
def rRan (a b : Nat) : List Nat × List Nat := ([a, b + 1], [])
def rWid (tk : List (Nat × Int32)) (nx : Nat) : Nat := if kd tk (nx + 1) = 1 then (if kd tk (nx + 2) = 1 then (if kd tk (nx + 3) = 1 then 3 else 2) else 1) else 0
def rStr (tk : List (Nat × Int32)) (B : Nat → Br) (d nx : Nat) : Option rS :=
  if rWid tk nx = 0 ∨ ¬ kd tk (nx + rWid tk nx + 1) = 8 then none
  else if rWid tk nx = 1 then rJoin B d (nx + 3) (rRan (nV (vl tk (nx + 1))) (nV (vl tk (nx + 1)))) false
  else rJoin B d (nx + (rWid tk nx + 2)) ([], [kOf (nV (vl tk (nx + 1))) (nV (vl tk (nx + 2))) (if rWid tk nx = 3 then nV (vl tk (nx + 3)) + 1 else 0)]) false
def rChar (tk : List (Nat × Int32)) (B : Nat → Br) (d nx : Nat) : Option rS :=
  if ¬ kd tk (nx + 1) = 9 ∨ kd tk (nx + 2) = 6 then rJoin B d (nx + 1) (rRan (nV (vl tk nx)) (nV (vl tk nx))) false
  else if ¬ kd tk (nx + 2) = 1 ∨ nV (vl tk (nx + 2)) < nV (vl tk nx) then none
  else rJoin B d (nx + 3) (rRan (nV (vl tk nx)) (nV (vl tk (nx + 2)))) false
def rSign (tk : List (Nat × Int32)) (B : Nat → Br) (d nx w : Nat) : Option rS := match d with
  | 0 => none
  | k + 1 => if (B k).2.2.2.1 = true ∧ (kd tk (nx + 1) = 4 ∨ kd tk (nx + 1) = 5 ∨ kd tk (nx + 1) = 2 ∨ kd tk (nx + 1) = 3) then some (bUp B k ((B k).1, (B k).2.1, (B k).2.2.1, (B k).2.2.2.1, w), k + 1, nx + 1, ([], [])) else none
def rHyp (tk : List (Nat × Int32)) (B : Nat → Br) (d nx : Nat) : Option rS := match d with
  | 0 => none
  | k + 1 => if (B k).2.2.1 = 0 ∨ kd tk (nx + 1) = 6 then rJoin B (k + 1) (nx + 1) (rRan 45 45) false else rSign tk B (k + 1) nx 2
def rStep (tk : List (Nat × Int32)) (B : Nat → Br) (d nx : Nat) : Option rS :=
  if d = 0 ∧ ¬ (kd tk nx = 4 ∨ kd tk nx = 5 ∨ kd tk nx = 2 ∨ kd tk nx = 3) then none
  else match kd tk nx with
    | 1 => rChar tk B d nx
    | 2 => rProp tk B d nx false
    | 3 => rProp tk B d nx true
    | 4 => rOpen B d nx false
    | 5 => rOpen B d nx true
    | 6 => rEnd B d nx
    | 7 => rStr tk B d nx
    | 9 => rHyp tk B d nx
    | 10 => rSign tk B d nx 1
    | _ => none
/-- the value of a row of tokens -/
def rAll (tk : List (Nat × Int32)) : Nat → (Nat → Br) → Nat → Nat → Option (List Nat × List Nat)
  | 0, _, _, _ => none
  | n + 1, B, d, nx => if nx < tk.length then (match rStep tk B d nx with
    | none => none
    | some (B', d', nx', V) => if d' = 0 then (if nx' = tk.length then some V else none) else rAll tk n B' d' nx') else none
theorem hMS.keep {h h' : wH} {p : Nat} {E S : List Nat} (a : hMS h p E S) (b : ∀ j, p ≤ j → j < p + 3 → h'[j]? = h[j]?) : hMS h' p E S := by
  obtain ⟨f, k, h1, h2, h3, h4⟩ := a
  exact ⟨f, k, by rw [b p (by omega) (by omega)]; exact h1, by rw [b (p + 1) (by omega) (by omega)]; exact h2, by rw [b (p + 2) (by omega) (by omega)]; exact h3, h4⟩
theorem hTR.keep {h h' : wH} {p : Nat} {t l : List Nat} {tk : List (Nat × Int32)} {pos : Nat} (a : hTR h p t tk l pos) (b : ∀ j, p ≤ j → j < p + 7 → h'[j]? = h[j]?) : hTR h' p t tk l pos := by
  obtain ⟨fk, fv, h1, ⟨cf, c1, c2, c3⟩, h3, h4, ⟨df, d1, d2, d3⟩, h6⟩ := a
  exact ⟨fk, fv, by rw [b p (by omega) (by omega)]; exact h1, ⟨cf, by rw [b _ (by omega) (by omega)]; exact c1, by rw [b _ (by omega) (by omega)]; exact c2, c3⟩, by rw [b (p + 3) (by omega) (by omega)]; exact h3, by rw [b (p + 4) (by omega) (by omega)]; exact h4, ⟨df, by rw [b _ (by omega) (by omega)]; exact d1, by rw [b _ (by omega) (by omega)]; exact d2, d3⟩, h6⟩
section PRq
variable {h h' : wH} {tk : List (Nat × Int32)} {B : Nat → Br} {d nx o s v d' nx' v' k : Nat} {b : Nat → Nat} {E S E' S' : List Nat}
/-- the operand is written -/
theorem hPR.so (a : hPR h tk B d nx o s v b) (e : hMS h' o E' S') (c : wOff h h' o 3) : hPR h' tk B d nx o s v b := by
  obtain ⟨a1, ⟨t, l, pos, a2⟩, ⟨f, a3, a3'⟩, a4, ⟨E1, S1, a5⟩, ⟨E2, S2, a6⟩, a7, a8, a9, a10, a11, a12⟩ := a
  have i1 := P1_in a7
  refine ⟨(c _ (by omega)).trans a1, ⟨t, l, pos, a2.off c (by omega)⟩, ⟨f, (c _ (by omega)).trans a3, a3'⟩, fun k hk => ?_, ⟨E', S', e⟩, ⟨E2, S2, a6.off c (P1_dj a8 a7 (Ne.symm a10))⟩, a7, a8, a9, a10, a11, a12⟩
  have i3 := P1_ob a7 hk
  exact (a4 k hk).off c (by omega) (P1_dj (a9 k hk) a7 (a11 k hk).1)
/-- the spare is written -/
theorem hPR.ss (a : hPR h tk B d nx o s v b) (e : hMS h' s E' S') (c : wOff h h' s 3) : hPR h' tk B d nx o s v b := by
  obtain ⟨a1, ⟨t, l, pos, a2⟩, ⟨f, a3, a3'⟩, a4, ⟨E1, S1, a5⟩, ⟨E2, S2, a6⟩, a7, a8, a9, a10, a11, a12⟩ := a
  have i1 := P1_in a8
  refine ⟨(c _ (by omega)).trans a1, ⟨t, l, pos, a2.off c (by omega)⟩, ⟨f, (c _ (by omega)).trans a3, a3'⟩, fun k hk => ?_, ⟨E1, S1, a5.off c (P1_dj a7 a8 a10)⟩, ⟨E', S', e⟩, a7, a8, a9, a10, a11, a12⟩
  have i3 := P1_ob a8 hk
  exact (a4 k hk).off c (by omega) (P1_dj (a9 k hk) a8 (a11 k hk).2)
/-- only the object itself is written -/
theorem hPR.ob (a : hPR h tk B d nx o s v b) (e : h'[13]? = some (.inr (3, [.ref 14, .ref 21, .int (nI d'), .int (nI nx'), .ref o, .ref s, .ref v']))) (c : ∀ j, j ≠ 13 → h'[j]? = h[j]?) : hPR h' tk B d' nx' o s v' b := by
  have c1 : wOff h h' 13 1 := fun j hj => c j (by omega)
  obtain ⟨a1, ⟨t, l, pos, a2⟩, ⟨f, a3, a3'⟩, a4, ⟨E1, S1, a5⟩, ⟨E2, S2, a6⟩, a7, a8, a9, a10, a11, a12⟩ := a
  have i1 := P1_in a7
  have i2 := P1_in a8
  refine ⟨e, ⟨t, l, pos, a2.off c1 (by omega)⟩, ⟨f, (c1 _ (by omega)).trans a3, a3'⟩, fun k hk => ?_, ⟨E1, S1, a5.off c1 (by omega)⟩, ⟨E2, S2, a6.off c1 (by omega)⟩, a7, a8, a9, a10, a11, a12⟩
  have i3 := P1_in (a9 k hk)
  exact (a4 k hk).off c1 (by omega) (by omega)
/-- operand and spare change places -/
theorem hPR.os (a : hPR h tk B d nx o s v b) (e : h'[13]? = some (.inr (3, [.ref 14, .ref 21, .int (nI d'), .int (nI nx'), .ref s, .ref o, .ref v']))) (c : ∀ j, j ≠ 13 → h'[j]? = h[j]?) : hPR h' tk B d' nx' s o v' b := by
  have c1 : wOff h h' 13 1 := fun j hj => c j (by omega)
  obtain ⟨a1, ⟨t, l, pos, a2⟩, ⟨f, a3, a3'⟩, a4, ⟨E1, S1, a5⟩, ⟨E2, S2, a6⟩, a7, a8, a9, a10, a11, a12⟩ := a
  have i1 := P1_in a7
  have i2 := P1_in a8
  refine ⟨e, ⟨t, l, pos, a2.off c1 (by omega)⟩, ⟨f, (c1 _ (by omega)).trans a3, a3'⟩, fun k hk => ?_, ⟨E2, S2, a6.off c1 (by omega)⟩, ⟨E1, S1, a5.off c1 (by omega)⟩, a8, a7, a9, Ne.symm a10, fun k hk => ⟨(a11 k hk).2, (a11 k hk).1⟩, a12⟩
  have i3 := P1_in (a9 k hk)
  exact (a4 k hk).off c1 (by omega) (by omega)
/-- a bracket's fields and the object are written, the sets stay -/
theorem hPR.fl {oth beh : Bool} {cnt how : Nat} (a : hPR h tk B d nx o s v b) (hk : k < 5) (e : h'[13]? = some (.inr (3, [.ref 14, .ref 21, .int (nI d'), .int (nI nx'), .ref o, .ref s, .ref v']))) (e2 : h'[28 + 4 * k]? = some (.inr (2, [.ref (b k), .int (bI oth), .int (nI cnt), .int (bI beh), .int (nI how)]))) (c : ∀ j, j ≠ 13 → j ≠ 28 + 4 * k → h'[j]? = h[j]?) : hPR h' tk (bUp B k ((B k).1, oth, cnt, beh, how)) d' nx' o s v' b := by
  obtain ⟨a1, ⟨t, l, pos, a2⟩, ⟨f, a3, a3'⟩, a4, ⟨E1, S1, a5⟩, ⟨E2, S2, a6⟩, a7, a8, a9, a10, a11, a12⟩ := a
  have ks : ∀ {x : Nat} {E S : List Nat}, P1 x → hMS h x E S → hMS h' x E S := fun {x _ _} hx q => q.keep (fun j h1 h2 => by
    have i1 := P1_in hx
    have i2 := P1_ob hx hk
    exact c j (by omega) (by omega))
  refine ⟨e, ⟨t, l, pos, a2.keep (fun j h1 h2 => c j (by omega) (by omega))⟩, ⟨f, (c _ (by omega) (by omega)).trans a3, a3'⟩, fun j hj => ?_, ⟨E1, S1, ks a7 a5⟩, ⟨E2, S2, ks a8 a6⟩, a7, a8, a9, a10, a11, a12⟩
  by_cases hjk : j = k
  · subst hjk
    rw [bUp_at]
    exact ⟨e2, ks (a9 j hj) (a4 j hj).2⟩
  · rw [bUp_ne _ _ hjk]
    exact ⟨(c _ (by omega) (by omega)).trans (a4 j hj).1, ks (a9 j hj) (a4 j hj).2⟩
/-- a bracket's set and the spare change places; its fields and the object are written -/
theorem hPR.swap {oth beh : Bool} {cnt how : Nat} (a : hPR h tk B d nx o s v b) (hk : k < 5) (hs : hMS h s E S) (e : h'[13]? = some (.inr (3, [.ref 14, .ref 21, .int (nI d'), .int (nI nx'), .ref o, .ref (b k), .ref v']))) (e2 : h'[28 + 4 * k]? = some (.inr (2, [.ref s, .int (bI oth), .int (nI cnt), .int (bI beh), .int (nI how)]))) (c : ∀ j, j ≠ 13 → j ≠ 28 + 4 * k → h'[j]? = h[j]?) : hPR h' tk (bUp B k ((E, S), oth, cnt, beh, how)) d' nx' o (b k) v' (fun j => if j = k then s else b j) := by
  obtain ⟨a1, ⟨t, l, pos, a2⟩, ⟨f, a3, a3'⟩, a4, ⟨E1, S1, a5⟩, ⟨E2, S2, a6⟩, a7, a8, a9, a10, a11, a12⟩ := a
  have ks : ∀ {x : Nat} {E S : List Nat}, P1 x → hMS h x E S → hMS h' x E S := fun {x _ _} hx q => q.keep (fun j h1 h2 => by
    have i1 := P1_in hx
    have i2 := P1_ob hx hk
    exact c j (by omega) (by omega))
  refine ⟨e, ⟨t, l, pos, a2.keep (fun j h1 h2 => c j (by omega) (by omega))⟩, ⟨f, (c _ (by omega) (by omega)).trans a3, a3'⟩, fun j hj => ?_, ⟨E1, S1, ks a7 a5⟩, ⟨_, _, ks (a9 k hk) (a4 k hk).2⟩, a7, a9 k hk, fun j hj => ?_, Ne.symm (a11 k hk).1, fun j hj => ?_, fun i j hi hj hij => ?_⟩
  · by_cases hjk : j = k
    · subst hjk
      rw [bUp_at]
      dsimp only
      rw [if_pos rfl]
      exact ⟨e2, ks a8 hs⟩
    · rw [bUp_ne _ _ hjk]
      dsimp only
      rw [if_neg hjk]
      exact ⟨(c _ (by omega) (by omega)).trans (a4 j hj).1, ks (a9 j hj) (a4 j hj).2⟩
  · dsimp only
    split
    · exact a8
    · exact a9 j hj
  · dsimp only
    split
    · exact ⟨Ne.symm a10, Ne.symm (a11 k hk).2⟩
    · exact ⟨(a11 j hj).1, a12 j k hj hk (by assumption)⟩
  · dsimp only
    split
    · split
      · omega
      · exact Ne.symm (a11 j hj).2
    · split
      · exact (a11 i hi).2
      · exact a12 i j hi hj hij
/-- a bracket begins -/
theorem hPR.beg {β : Br} (a : hPR h tk B d nx o s v b) (hk : k < 5) (e : hOB h' (28 + 4 * k) (b k) β) (c : ∀ j, j ≠ 28 + 4 * k → (j < b k ∨ b k + 3 ≤ j) → h'[j]? = h[j]?) : hPR h' tk (bUp B k β) d nx o s v b := by
  obtain ⟨a1, ⟨t, l, pos, a2⟩, ⟨f, a3, a3'⟩, a4, ⟨E1, S1, a5⟩, ⟨E2, S2, a6⟩, a7, a8, a9, a10, a11, a12⟩ := a
  have i0 := P1_in (a9 k hk)
  have ks : ∀ {x : Nat} {E S : List Nat}, P1 x → x ≠ b k → hMS h x E S → hMS h' x E S := fun {x _ _} hx hne q => q.keep (fun j h1 h2 => by
    have i1 := P1_dj hx (a9 k hk) hne
    have i2 := P1_ob hx hk
    exact c j (by omega) (by omega))
  refine ⟨(c _ (by omega) (by omega)).trans a1, ⟨t, l, pos, a2.keep (fun j h1 h2 => c j (by omega) (by omega))⟩, ⟨f, (c _ (by omega) (by omega)).trans a3, a3'⟩, fun j hj => ?_, ⟨E1, S1, ks a7 (Ne.symm (a11 k hk).1) a5⟩, ⟨E2, S2, ks a8 (Ne.symm (a11 k hk).2) a6⟩, a7, a8, a9, a10, a11, a12⟩
  by_cases hjk : j = k
  · subst hjk
    rw [bUp_at]
    exact e
  · rw [bUp_ne _ _ hjk]
    have i2 := P1_ob (a9 k hk) hj
    exact ⟨(c _ (by omega) (by omega)).trans (a4 j hj).1, ks (a9 j hj) (a12 j k hj hk hjk) (a4 j hj).2⟩
end PRq
/-- what a step's contract says -/
def rQ (x : Option rS) (h : wH) (tk : List (Nat × Int32)) : Option Value → wH → Prop := fun r h' => wOff h h' 13 35 ∧ r = some (.int (bI x.isSome)) ∧ hRd h' ∧ ∀ B d nx V, x = some (B, d, nx, V) → ∃ o s v b, hPR h' tk B d nx o s v b ∧ (d = 0 → hMS h' v V.1 V.2 ∧ P1 v)
theorem rQ.tr {x : Option rS} {h h1 h2 : wH} {tk : List (Nat × Int32)} {r : Option Value} (a : wOff h h1 13 35) (b : rQ x h1 tk r h2) : rQ x h tk r h2 := ⟨a.tr b.1, b.2⟩
