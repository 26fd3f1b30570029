/-! sets of numbers as rising lists of edges: a number is in the set behind an odd number of edges -/
def eCnt (E : List Nat) (c : Nat) : Nat := (E.filter (fun e => decide (e ≤ c))).length
def eMem (E : List Nat) (c : Nat) : Bool := eCnt E c % 2 == 1
def eAsc (E : List Nat) : Prop := E.Pairwise (· < ·)
theorem eCnt_nil (c : Nat) : eCnt [] c = 0 := rfl
theorem eCnt_cons (e : Nat) (E : List Nat) (c : Nat) : eCnt (e :: E) c = (if e ≤ c then 1 else 0) + eCnt E c := by
  unfold eCnt
  by_cases h : e ≤ c
  · simp [h]
    omega
  · simp [h]
theorem eCnt_append (E F : List Nat) (c : Nat) : eCnt (E ++ F) c = eCnt E c + eCnt F c := by
  unfold eCnt
  rw [List.filter_append, List.length_append]
theorem eCnt_low {E : List Nat} {c : Nat} (h : ∀ e ∈ E, c < e) : eCnt E c = 0 := by
  unfold eCnt
  rw [List.length_eq_zero_iff, List.filter_eq_nil_iff]
  intro e he
  have := h e he
  simp
  omega
theorem eCnt_high {E : List Nat} {c : Nat} (h : ∀ e ∈ E, e ≤ c) : eCnt E c = E.length := by
  unfold eCnt
  rw [List.filter_eq_self.mpr]
  intro e he
  simpa using h e he
theorem eCnt_le (E : List Nat) (c : Nat) : eCnt E c ≤ E.length := by
  unfold eCnt
  exact List.length_filter_le _ _
theorem eMem_iff (E : List Nat) (c : Nat) : eMem E c = true ↔ eCnt E c % 2 = 1 := by
  unfold eMem
  simp
theorem eAsc_cons {e : Nat} {E : List Nat} : eAsc (e :: E) ↔ (∀ x ∈ E, e < x) ∧ eAsc E := List.pairwise_cons
theorem eAsc_append {E F : List Nat} : eAsc (E ++ F) ↔ eAsc E ∧ eAsc F ∧ ∀ a ∈ E, ∀ b ∈ F, a < b := List.pairwise_append
/-- two rising lists with the same members are one -/
theorem eCanon : ∀ (E F : List Nat), eAsc E → eAsc F → (∀ c, eMem E c = eMem F c) → E = F
  | [], [], _, _, _ => rfl
  | [], f :: F, _, hF, h => by
    exfalso
    have h1 := h f
    have h2 : eCnt (f :: F) f = 1 := by
      rw [eCnt_cons, eCnt_low (fun e he => (eAsc_cons.mp hF).1 e he)]
      simp
    simp [eMem, eCnt_nil, h2] at h1
  | e :: E, [], hE, _, h => by
    exfalso
    have h1 := h e
    have h2 : eCnt (e :: E) e = 1 := by
      rw [eCnt_cons, eCnt_low (fun x hx => (eAsc_cons.mp hE).1 x hx)]
      simp
    simp [eMem, eCnt_nil, h2] at h1
  | e :: E, f :: F, hE, hF, h => by
    obtain ⟨hE1, hE2⟩ := eAsc_cons.mp hE
    obtain ⟨hF1, hF2⟩ := eAsc_cons.mp hF
    have hef : e = f := by
      rcases Nat.lt_trichotomy e f with hl | hl | hl
      · exfalso
        have h1 := h e
        have h2 : eCnt (e :: E) e = 1 := by
          rw [eCnt_cons, eCnt_low hE1]
          simp
        have h3 : eCnt (f :: F) e = 0 := eCnt_low (fun x hx => by
          rcases List.mem_cons.mp hx with rfl | hx
          · exact hl
          · exact Nat.lt_trans hl (hF1 x hx))
        simp [eMem, h2, h3] at h1
      · exact hl
      · exfalso
        have h1 := h f
        have h2 : eCnt (f :: F) f = 1 := by
          rw [eCnt_cons, eCnt_low hF1]
          simp
        have h3 : eCnt (e :: E) f = 0 := eCnt_low (fun x hx => by
          rcases List.mem_cons.mp hx with rfl | hx
          · exact hl
          · exact Nat.lt_trans hl (hE1 x hx))
        simp [eMem, h2, h3] at h1
    subst hef
    congr 1
    refine eCanon E F hE2 hF2 (fun c => ?_)
    by_cases hc : e ≤ c
    · have h1 := h c
      unfold eMem at h1 ⊢
      rw [eCnt_cons, eCnt_cons, if_pos hc] at h1
      have hb : ((1 + eCnt E c) % 2 = 1) ↔ ((1 + eCnt F c) % 2 = 1) := by
        constructor
        · intro q
          rw [q] at h1
          simpa using h1.symm
        · intro q
          rw [q] at h1
          simpa using h1
      by_cases q : eCnt E c % 2 = 1
      · have q2 : eCnt F c % 2 = 1 := by
          rcases Nat.mod_two_eq_zero_or_one (eCnt F c) with z | z
          · have := hb.mpr (by omega)
            omega
          · exact z
        rw [q, q2]
      · have q2 : ¬ eCnt F c % 2 = 1 := by
          intro z
          have := hb.mp (by omega)
          omega
        have q3 : eCnt E c % 2 = 0 := by omega
        have q4 : eCnt F c % 2 = 0 := by omega
        rw [q3, q4]
    · have h1 : eCnt E c = 0 := eCnt_low (fun x hx => by have := hE1 x hx; omega)
      have h2 : eCnt F c = 0 := eCnt_low (fun x hx => by have := hF1 x hx; omega)
      unfold eMem
      rw [h1, h2]
/-- the four ways -/
def eDec (how : Nat) (a b : Bool) : Bool := match how with
  | 0 => a || b
  | 1 => a && b
  | 2 => a && !b
  | _ => a != b
theorem eDec_ff (how : Nat) : eDec how false false = false := by
  unfold eDec
  split <;> rfl
def eOdd (n : Nat) : Bool := n % 2 == 1
theorem eAsc_lt {L : List Nat} (h : eAsc L) {a b y z : Nat} (hab : a < b) (hy : L[a]? = some y) (hz : L[b]? = some z) : y < z := by
  obtain ⟨h1, h2⟩ := List.getElem?_eq_some_iff.mp hy
  obtain ⟨h3, h4⟩ := List.getElem?_eq_some_iff.mp hz
  have := List.pairwise_iff_getElem.mp h a b h1 h3 hab
  rw [h2, h4] at this
  exact this
theorem eTake_succ {L : List Nat} {i x : Nat} (h : L[i]? = some x) : L.take (i + 1) = L.take i ++ [x] := by
  rw [List.take_add_one, h]
  rfl
theorem eMem_take {L : List Nat} {i y : Nat} (h : y ∈ L.take i) : ∃ a, a < i ∧ L[a]? = some y := by
  obtain ⟨a, ha⟩ := List.getElem?_of_mem h
  by_cases hi : a < i
  · rw [List.getElem?_take_of_lt hi] at ha
    exact ⟨a, hi, ha⟩
  · rw [List.getElem?_take_eq_none (by omega)] at ha
    cases ha
/-- where two rising lists are merged, i and j edges behind: what has been laid is the set of the two beginnings -/
def eInv (how : Nat) (L R : List Nat) (i j : Nat) (ins : Bool) (acc : List Nat) : Prop :=
  i ≤ L.length ∧ j ≤ R.length ∧ eAsc acc ∧ ins = eDec how (eOdd i) (eOdd j) ∧ eOdd acc.length = ins ∧ acc.length ≤ i + j ∧
  (∀ a y b z, a < i → L[a]? = some y → j ≤ b → R[b]? = some z → y < z) ∧ (∀ a y b z, a < j → R[a]? = some y → i ≤ b → L[b]? = some z → y < z) ∧
  (∀ a ∈ acc, (a ∈ L.take i ∨ a ∈ R.take j)) ∧ ∀ c, eMem acc c = eDec how (eMem (L.take i) c) (eMem (R.take j) c)
theorem eInv_0 (how : Nat) (L R : List Nat) : eInv how L R 0 0 false [] := by
  refine ⟨Nat.zero_le _, Nat.zero_le _, List.Pairwise.nil, ?_, rfl, Nat.le_refl _, fun a y b z h => (by omega), fun a y b z h => (by omega), fun a h => (by cases h), fun c => ?_⟩
  · rw [show eOdd 0 = false from rfl, eDec_ff]
  · rw [List.take_zero, List.take_zero, show eMem [] c = false from rfl, eDec_ff]
theorem eMem_all {L : List Nat} {i c : Nat} (hi : i ≤ L.length) (h : ∀ a y, a < i → L[a]? = some y → y ≤ c) : eMem (L.take i) c = eOdd i := by
  unfold eMem eOdd
  rw [eCnt_high (fun e he => by obtain ⟨a, h1, h2⟩ := eMem_take he; exact h a e h1 h2), List.length_take, Nat.min_eq_left hi]
theorem eMem_snoc {E : List Nat} {x c : Nat} (h : c < x) : eMem (E ++ [x]) c = eMem E c := by
  unfold eMem
  rw [eCnt_append, eCnt_low (E := [x]) (fun e he => by rw [List.mem_singleton] at he; omega)]
  rfl
theorem eInv_step {how : Nat} {L R : List Nat} {i j i' j' x : Nat} {ins : Bool} {acc : List Nat} (hL : eAsc L) (hR : eAsc R) (inv : eInv how L R i j ins acc)
    (hi : (i' = i ∧ ∀ z, L[i]? = some z → x < z) ∨ (i' = i + 1 ∧ L[i]? = some x)) (hj : (j' = j ∧ ∀ z, R[j]? = some z → x < z) ∨ (j' = j + 1 ∧ R[j]? = some x)) (hne : i' ≠ i ∨ j' ≠ j) :
    eInv how L R i' j' (eDec how (eOdd i') (eOdd j')) (if eDec how (eOdd i') (eOdd j') = ins then acc else acc ++ [x]) := by
  obtain ⟨q1, q2, q3, q4, q5, q6, q7, q8, q9, q10⟩ := inv
  have hi1 : i' ≤ L.length := by
    rcases hi with ⟨rfl, -⟩ | ⟨rfl, hx⟩
    · exact q1
    · exact (List.getElem?_eq_some_iff.mp hx).1
  have hj1 : j' ≤ R.length := by
    rcases hj with ⟨rfl, -⟩ | ⟨rfl, hx⟩
    · exact q2
    · exact (List.getElem?_eq_some_iff.mp hx).1
  -- what is behind is below x
  have bL : ∀ a y, a < i → L[a]? = some y → y < x := by
    intro a y ha hy
    rcases hi with ⟨e1, hmin⟩ | ⟨rfl, hx⟩
    · rcases hj with ⟨e2, -⟩ | ⟨rfl, hx⟩
      · rcases hne with h | h <;> contradiction
      · exact q7 a y j x ha hy (Nat.le_refl _) hx
    · exact eAsc_lt hL ha hy hx
  have bR : ∀ a y, a < j → R[a]? = some y → y < x := by
    intro a y ha hy
    rcases hj with ⟨e1, hmin⟩ | ⟨rfl, hx⟩
    · rcases hi with ⟨e2, -⟩ | ⟨rfl, hx⟩
      · rcases hne with h | h <;> contradiction
      · exact q8 a y i x ha hy (Nat.le_refl _) hx
    · exact eAsc_lt hR ha hy hx
  have bL' : ∀ a y, a < i' → L[a]? = some y → y ≤ x := by
    intro a y ha hy
    rcases hi with ⟨rfl, -⟩ | ⟨rfl, hx⟩
    · exact Nat.le_of_lt (bL a y ha hy)
    · by_cases hai : a = i
      · subst hai
        rw [hx] at hy
        cases hy
        exact Nat.le_refl _
      · exact Nat.le_of_lt (bL a y (by omega) hy)
  have bR' : ∀ a y, a < j' → R[a]? = some y → y ≤ x := by
    intro a y ha hy
    rcases hj with ⟨rfl, -⟩ | ⟨rfl, hx⟩
    · exact Nat.le_of_lt (bR a y ha hy)
    · by_cases hai : a = j
      · subst hai
        rw [hx] at hy
        cases hy
        exact Nat.le_refl _
      · exact Nat.le_of_lt (bR a y (by omega) hy)
  -- what is ahead is above x
  have aL : ∀ b z, i' ≤ b → L[b]? = some z → x < z := by
    intro b z hb hz
    rcases hi with ⟨rfl, hmin⟩ | ⟨rfl, hx⟩
    · by_cases hbi : b = i'
      · subst hbi
        exact hmin z hz
      · obtain ⟨h1, -⟩ := List.getElem?_eq_some_iff.mp hz
        have hlt : i' < L.length := by omega
        have h2 := hmin _ (List.getElem?_eq_getElem hlt)
        exact Nat.lt_trans h2 (eAsc_lt hL (by omega) (List.getElem?_eq_getElem hlt) hz)
    · exact eAsc_lt hL (by omega) hx hz
  have aR : ∀ b z, j' ≤ b → R[b]? = some z → x < z := by
    intro b z hb hz
    rcases hj with ⟨rfl, hmin⟩ | ⟨rfl, hx⟩
    · by_cases hbi : b = j'
      · subst hbi
        exact hmin z hz
      · obtain ⟨h1, -⟩ := List.getElem?_eq_some_iff.mp hz
        have hlt : j' < R.length := by omega
        have h2 := hmin _ (List.getElem?_eq_getElem hlt)
        exact Nat.lt_trans h2 (eAsc_lt hR (by omega) (List.getElem?_eq_getElem hlt) hz)
    · exact eAsc_lt hR (by omega) hx hz
  have accLt : ∀ a ∈ acc, a < x := by
    intro a ha
    rcases q9 a ha with h | h
    · obtain ⟨k, h1, h2⟩ := eMem_take h
      exact bL k a h1 h2
    · obtain ⟨k, h1, h2⟩ := eMem_take h
      exact bR k a h1 h2
  have subL : ∀ a, a ∈ L.take i → a ∈ L.take i' := by
    intro a ha
    rcases hi with ⟨rfl, -⟩ | ⟨rfl, hx⟩
    · exact ha
    · rw [eTake_succ hx]
      exact List.mem_append_left _ ha
  have subR : ∀ a, a ∈ R.take j → a ∈ R.take j' := by
    intro a ha
    rcases hj with ⟨rfl, -⟩ | ⟨rfl, hx⟩
    · exact ha
    · rw [eTake_succ hx]
      exact List.mem_append_left _ ha
  have xin : x ∈ L.take i' ∨ x ∈ R.take j' := by
    rcases hi with ⟨e1, -⟩ | ⟨rfl, hx⟩
    · rcases hj with ⟨e2, -⟩ | ⟨rfl, hx⟩
      · rcases hne with h | h <;> contradiction
      · right
        rw [eTake_succ hx]
        exact List.mem_append_right _ (List.mem_singleton.mpr rfl)
    · left
      rw [eTake_succ hx]
      exact List.mem_append_right _ (List.mem_singleton.mpr rfl)
  have lowL : ∀ c, c < x → eMem (L.take i') c = eMem (L.take i) c := by
    intro c hc
    rcases hi with ⟨rfl, -⟩ | ⟨rfl, hx⟩
    · rfl
    · rw [eTake_succ hx, eMem_snoc hc]
  have lowR : ∀ c, c < x → eMem (R.take j') c = eMem (R.take j) c := by
    intro c hc
    rcases hj with ⟨rfl, -⟩ | ⟨rfl, hx⟩
    · rfl
    · rw [eTake_succ hx, eMem_snoc hc]
  have highL : ∀ c, x ≤ c → eMem (L.take i') c = eOdd i' := fun c hc => eMem_all hi1 (fun a y ha hy => Nat.le_trans (bL' a y ha hy) hc)
  have highR : ∀ c, x ≤ c → eMem (R.take j') c = eOdd j' := fun c hc => eMem_all hj1 (fun a y ha hy => Nat.le_trans (bR' a y ha hy) hc)
  have cross1 : ∀ a y b z, a < i' → L[a]? = some y → j' ≤ b → R[b]? = some z → y < z := fun a y b z ha hy hb hz => Nat.lt_of_le_of_lt (bL' a y ha hy) (aR b z hb hz)
  have cross2 : ∀ a y b z, a < j' → R[a]? = some y → i' ≤ b → L[b]? = some z → y < z := fun a y b z ha hy hb hz => Nat.lt_of_le_of_lt (bR' a y ha hy) (aL b z hb hz)
  have hcnt : i + j + 1 ≤ i' + j' := by
    rcases hi with ⟨rfl, -⟩ | ⟨rfl, -⟩ <;> rcases hj with ⟨rfl, -⟩ | ⟨rfl, -⟩
    · rcases hne with h | h <;> contradiction
    · omega
    · omega
    · omega
  have accHigh : ∀ c, x ≤ c → eMem acc c = ins := by
    intro c hc
    unfold eMem
    rw [eCnt_high (fun e he => Nat.le_of_lt (Nat.lt_of_lt_of_le (accLt e he) hc))]
    exact q5
  by_cases hk : eDec how (eOdd i') (eOdd j') = ins
  · rw [if_pos hk]
    refine ⟨hi1, hj1, q3, rfl, by rw [hk]; exact q5, by omega, cross1, cross2, fun a ha => ?_, fun c => ?_⟩
    · rcases q9 a ha with h | h
      · exact Or.inl (subL a h)
      · exact Or.inr (subR a h)
    · by_cases hc : x ≤ c
      · rw [highL c hc, highR c hc, hk]
        exact accHigh c hc
      · rw [lowL c (by omega), lowR c (by omega)]
        exact q10 c
  · rw [if_neg hk]
    refine ⟨hi1, hj1, ?_, rfl, ?_, ?_, cross1, cross2, fun a ha => ?_, fun c => ?_⟩
    · refine eAsc_append.mpr ⟨q3, List.pairwise_singleton _ _, fun a ha b hb => ?_⟩
      rw [List.mem_singleton] at hb
      rw [hb]
      exact accLt a ha
    · rw [List.length_append, List.length_singleton]
      have h1 : eOdd (acc.length + 1) = !eOdd acc.length := by
        unfold eOdd
        rcases Nat.mod_two_eq_zero_or_one acc.length with z | z
        · rw [z, show (acc.length + 1) % 2 = 1 by omega]
          rfl
        · rw [z, show (acc.length + 1) % 2 = 0 by omega]
          rfl
      rw [h1, q5]
      cases hx : eDec how (eOdd i') (eOdd j') <;> cases hy : ins <;> simp_all
    · rw [List.length_append, List.length_singleton]
      omega
    · rcases List.mem_append.mp ha with h | h
      · rcases q9 a h with h | h
        · exact Or.inl (subL a h)
        · exact Or.inr (subR a h)
      · rw [List.mem_singleton] at h
        rw [h]
        exact xin
    · by_cases hc : x ≤ c
      · rw [highL c hc, highR c hc]
        have h2 : eCnt (acc ++ [x]) c = acc.length + 1 := by
          rw [eCnt_high (fun e he => ?_), List.length_append, List.length_singleton]
          rcases List.mem_append.mp he with h | h
          · exact Nat.le_of_lt (Nat.lt_of_lt_of_le (accLt e h) hc)
          · rw [List.mem_singleton] at h
            rw [h]
            exact hc
        have h3 : eMem (acc ++ [x]) c = !ins := by
          rw [← q5]
          unfold eMem eOdd
          rw [h2]
          rcases Nat.mod_two_eq_zero_or_one acc.length with z | z
          · rw [z, show (acc.length + 1) % 2 = 1 by omega]
            rfl
          · rw [z, show (acc.length + 1) % 2 = 0 by omega]
            rfl
        rw [h3]
        cases hx : eDec how (eOdd i') (eOdd j') <;> cases hy : ins <;> simp_all
      · rw [lowL c (by omega), lowR c (by omega), eMem_snoc (by omega)]
        exact q10 c
theorem eInv_end {how : Nat} {L R : List Nat} {ins : Bool} {acc : List Nat} (inv : eInv how L R L.length R.length ins acc) : eAsc acc ∧ acc.length ≤ L.length + R.length ∧ (∀ a ∈ acc, a ∈ L ∨ a ∈ R) ∧ ∀ c, eMem acc c = eDec how (eMem L c) (eMem R c) := by
  obtain ⟨q1, q2, q3, q4, q5, q6, q7, q8, q9, q10⟩ := inv
  rw [List.take_length, List.take_length] at q10
  rw [List.take_length, List.take_length] at q9
  exact ⟨q3, q6, q9, q10⟩
theorem eCnt_iff : ∀ {E : List Nat} (_ : eAsc E) {m y c : Nat} (_ : E[m]? = some y), y ≤ c ↔ m < eCnt E c
  | [], _, m, y, c, hy => by simp at hy
  | e :: E, h, 0, y, c, hy => by
    rw [List.getElem?_cons_zero] at hy
    cases hy
    rw [eCnt_cons]
    by_cases hc : e ≤ c
    · rw [if_pos hc]
      exact ⟨fun _ => by omega, fun _ => hc⟩
    · rw [if_neg hc, eCnt_low (fun x hx => by have := (eAsc_cons.mp h).1 x hx; omega)]
      exact ⟨fun z => absurd z hc, fun z => by omega⟩
  | e :: E, h, m + 1, y, c, hy => by
    rw [List.getElem?_cons_succ] at hy
    obtain ⟨h1, h2⟩ := eAsc_cons.mp h
    have ih := eCnt_iff h2 hy (c := c)
    rw [eCnt_cons]
    by_cases hc : e ≤ c
    · rw [if_pos hc, ih]
      omega
    · have h3 : eCnt E c = 0 := eCnt_low (fun x hx => by have := h1 x hx; omega)
      have h4 := h1 y (List.mem_of_getElem? hy)
      rw [if_neg hc, h3]
      omega
/-- how many members -/
def eSize : List Nat → Nat
  | a :: b :: r => (b - a) + eSize r
  | _ => 0
/-- the member with i members below it -/
def eNth : List Nat → Nat → Option Nat
  | a :: b :: r, i => if i < b - a then some (a + i) else eNth r (i - (b - a))
  | _, _ => none
/-- an edge comes: it is laid behind the others, or takes the last one away -/
def eTog (E : List Nat) (x : Nat) : List Nat := if E.getLast? = some x then E.dropLast else E ++ [x]
def bI (b : Bool) : Int32 := if b then nI 1 else nI 0
theorem eDrop2 {E : List Nat} (hA : eAsc E) {i : Nat} (h : i + 1 < E.length) : ∃ a b, a < b ∧ E[i]? = some a ∧ E[i + 1]? = some b ∧ E.drop i = a :: b :: E.drop (i + 2) := by
  have h1 : i < E.length := by omega
  refine ⟨E[i], E[i + 1], eAsc_lt hA (Nat.lt_succ_self i) (List.getElem?_eq_getElem h1) (List.getElem?_eq_getElem h), List.getElem?_eq_getElem h1, List.getElem?_eq_getElem h, ?_⟩
  rw [List.drop_eq_getElem_cons h1, List.drop_eq_getElem_cons h]
theorem eSize_short {E : List Nat} (h : E.length ≤ 1) : eSize E = 0 := by
  match E, h with
  | [], _ => rfl
  | [a], _ => rfl
  | a :: b :: r, h => simp at h
theorem eNth_short {E : List Nat} {i : Nat} (h : E.length ≤ 1) : eNth E i = none := by
  match E, h with
  | [], _ => rfl
  | [a], _ => rfl
  | a :: b :: r, h => simp at h
theorem lg_cmp_self (x : Int64) : lg_cmp x x = 0 := by simp [lg_cmp]
theorem lg_cmp_0 {x y : Int64} (h : lg_cmp x y = 0) : x = y := by
  unfold lg_cmp at h
  split at h
  · exact absurd h (by decide)
  · split at h
    · assumption
    · exact absurd h (by decide)
