/-! THE PURE SIDE. A cell has a PLACE (a number) instead of an address; a heap is the list of its cells; place k < 1000 lies at xz + k, a place from 1000 on is an old cell that nobody writes. -/
abbrev wE : Type := (Nat × vp_A) ⊕ (Nat × List Value)
abbrev wH : Type := List wE
/-- launch, class numbers and slots, array classes, addresses of the places, where the new cells begin, the tables of ints that nobody writes (the script is one) -/
abbrev wX : Type := Launch × va_G × (Nat → ClassId) × (Nat → Nat) × Nat × List (Nat × (Nat → Int32))
/-- a method: name, code, number of locals, what it returns -/
abbrev wM : Type := MethodName × ByteArray × Nat × Option FieldType
/-- what the end of a walk must be: frames below, arguments, start, number of cells at the start -/
abbrev wN : Type := List Frame → Array Value → State → Nat → State → Prop
def xl (X : wX) : Launch := X.1
def xD (X : wX) : va_G := X.2.1
def xc (X : wX) : Nat → ClassId := X.2.2.1
def xa (X : wX) : Nat → Nat := X.2.2.2.1
def xz (X : wX) : Nat := X.2.2.2.2.1
def xo (X : wX) : List (Nat × (Nat → Int32)) := X.2.2.2.2.2
def xA (X : wX) : Nat → Prop := fun q => xz X ≤ q
def wv (X : wX) : Value → Value
  | .ref k => .ref (xa X k)
  | .int x => .int x
  | .long x => .long x
  | .float x => .float x
  | .double x => .double x
  | .null => .null
  | .retAddr x => .retAddr x
theorem wv_cat (X : wX) (v : Value) : (wv X v).category = v.category := by cases v <;> rfl
theorem wv_rf (X : wX) (r : Option Nat) : wv X (va_rf r) = va_rf (r.map (xa X)) := by cases r <;> rfl
def wref : Value → Bool
  | .ref _ => true
  | .null => true
  | _ => false
theorem wref_or {v : Value} (h : wref v = true) : v = .null ∨ ∃ q, v = .ref q := by
  cases v with
  | null => exact Or.inl rfl
  | ref q => exact Or.inr ⟨q, rfl⟩
  | _ => simp [wref] at h
/-- an array's contents, by addresses -/
def wq (X : wX) (a : vp_A) : vp_A := match a with
  | (n, .inl f) => (n, .inl f)
  | (n, .inr (.inl f)) => (n, .inr (.inl f))
  | (n, .inr (.inr (.inl f))) => (n, .inr (.inr (.inl f)))
  | (n, .inr (.inr (.inr (.inl f)))) => (n, .inr (.inr (.inr (.inl f))))
  | (n, .inr (.inr (.inr (.inr f)))) => (n, .inr (.inr (.inr (.inr (fun i => (f i).map (xa X))))))
theorem wq_len (X : wX) (a : vp_A) : (wq X a).1 = a.1 := by
  obtain ⟨n, f | f | f | f | f⟩ := a <;> rfl
def we (X : wX) (e : wE) : va_E := match e with
  | .inl (t, a) => .inl (xc X t, wq X a)
  | .inr (c, fs) => .inr (c, fs.map (wv X))
def ww (X : wX) : Nat → wH → va_W
  | _, [] => []
  | k, e :: r => (xa X k, we X e) :: ww X (k + 1) r
theorem ww_get (X : wX) : ∀ (h : wH) (k i : Nat), (ww X k h)[i]? = (h[i]?).map (fun e => (xa X (k + i), we X e))
  | [], k, i => by simp [ww]
  | e :: r, k, 0 => by simp [ww]
  | e :: r, k, i + 1 => by
    have h := ww_get X r (k + 1) i
    rw [show k + 1 + i = k + (i + 1) by omega] at h
    simp only [ww, List.getElem?_cons_succ]
    exact h
theorem ww_at (X : wX) {h : wH} {q : Nat} {e : wE} (he : h[q]? = some e) : (ww X 0 h)[q]? = some (xa X q, we X e) := by
  rw [ww_get, he, Nat.zero_add]
  rfl
theorem ww_set (X : wX) : ∀ (h : wH) (k i : Nat) (e : wE), ww X k (h.set i e) = (ww X k h).set i (xa X (k + i), we X e)
  | [], k, i, e => by simp [ww]
  | a :: r, k, 0, e => by simp [ww]
  | a :: r, k, i + 1, e => by
    have h := ww_set X r (k + 1) i e
    rw [show k + 1 + i = k + (i + 1) by omega] at h
    simp only [ww, List.set_cons_succ]
    rw [h]
theorem ww_set0 (X : wX) (h : wH) (i : Nat) (e : wE) : ww X 0 (h.set i e) = (ww X 0 h).set i (xa X i, we X e) := by
  rw [ww_set, Nat.zero_add]
theorem ww_push (X : wX) : ∀ (h : wH) (k : Nat) (e : wE), ww X k (h ++ [e]) = ww X k h ++ [(xa X (k + h.length), we X e)]
  | [], k, e => by simp [ww]
  | a :: r, k, e => by
    have h := ww_push X r (k + 1) e
    rw [show k + 1 + r.length = k + (r.length + 1) by omega] at h
    simp only [ww, List.cons_append, List.length_cons]
    rw [h]
theorem ww_D {X : wX} (hok : ∀ k, k < 1000 → xa X k = xz X + k) {h : wH} (hl : h.length ≤ 1000) : va_D (xA X) (ww X 0 h) := by
  have key : ∀ (i : Nat) (p : Nat × va_E), (ww X 0 h)[i]? = some p → p.1 = xz X + i := by
    intro i p hp
    rw [ww_get, Nat.zero_add] at hp
    cases hi : h[i]? with
    | none => rw [hi] at hp; cases hp
    | some e =>
      rw [hi] at hp
      have hlt : i < h.length := (List.getElem?_eq_some_iff.mp hi).1
      cases hp
      exact hok i (by omega)
  refine ⟨fun i j p q hp hq e => ?_, fun k q hq => ?_⟩
  · have h1 := key i p hp
    have h2 := key j q hq
    omega
  · show xz X ≤ q.1
    rw [key k q hq]
    omega
/-! locals -/
def wll (X : wX) (pl : List (Option Value)) : List (Nat × Value) := (List.range pl.length).filterMap (fun i => (pl[i]?.join).map (fun v => (i, wv X v)))
theorem wll_mem {X : wX} {pl : List (Option Value)} {i : Nat} {w : Value} : (i, w) ∈ wll X pl ↔ ∃ v, pl[i]? = some (some v) ∧ wv X v = w := by
  unfold wll
  rw [List.mem_filterMap]
  constructor
  · rintro ⟨j, -, hj⟩
    cases hp : pl[j]? with
    | none => rw [hp] at hj; cases hj
    | some o =>
      cases o with
      | none => rw [hp] at hj; cases hj
      | some v =>
        rw [hp] at hj
        simp only [Option.join_some, Option.map_some, Option.some.injEq, Prod.mk.injEq] at hj
        obtain ⟨rfl, rfl⟩ := hj
        exact ⟨v, hp, rfl⟩
  · rintro ⟨v, hv, rfl⟩
    refine ⟨i, List.mem_range.mpr (List.getElem?_eq_some_iff.mp hv).1, ?_⟩
    rw [hv]
    rfl
theorem wl_at {X : wX} {ls : Array Slot} {nL : Nat} {pl : List (Option Value)} (h : lv_has ls nL (wll X pl)) {i : Nat} {v : Value} (hv : pl[i]? = some (some v)) : ls[i]? = some (.val (wv X v)) := h.2.2 (i, wv X v) (wll_mem.mpr ⟨v, hv, rfl⟩)
/-- a long below the place is gone -/
def wkill (pl : List (Option Value)) : Nat → List (Option Value)
  | 0 => pl
  | j + 1 => match pl[j]? with
    | some (some (.long _)) => pl.set j none
    | some (some (.double _)) => pl.set j none
    | _ => pl
def wst1 (pl : List (Option Value)) (i : Nat) (v : Value) : List (Option Value) := (wkill pl i).set i (some v)
def wst2 (pl : List (Option Value)) (i : Nat) (v : Value) : List (Option Value) := ((wkill pl i).set (i + 1) none).set i (some v)
theorem wkill_get {pl : List (Option Value)} {i j : Nat} {w : Value} (h : (wkill pl i)[j]? = some (some w)) : pl[j]? = some (some w) ∧ ¬ (j + 1 = i ∧ w.category = 2) := by
  cases i with
  | zero => exact ⟨h, fun q => by omega⟩
  | succ k =>
    by_cases hk : j = k
    · subst hk
      simp only [wkill] at h
      split at h
      · rw [List.getElem?_set] at h
        simp at h
      · rw [List.getElem?_set] at h
        simp at h
      · rename_i h1 h2
        refine ⟨h, fun q => ?_⟩
        cases w with
        | long x => exact h1 x h
        | double x => exact h2 x h
        | _ => simp [Value.category] at q
    · have : pl[j]? = some (some w) := by
        simp only [wkill] at h
        split at h
        · rwa [List.getElem?_set_ne (fun q => hk q.symm)] at h
        · rwa [List.getElem?_set_ne (fun q => hk q.symm)] at h
        · exact h
      exact ⟨this, fun q => hk (by omega)⟩
theorem wl_st1 {X : wX} {ls : Array Slot} {nL : Nat} {pl : List (Option Value)} {i : Nat} {v : Value} (h : lv_has ls nL ((i, wv X v) :: (wll X pl).filter (fun q => !(q.1 == i) && !(q.1 + 1 == i && q.2.category == 2)))) : lv_has ls nL (wll X (wst1 pl i v)) := by
  refine ⟨h.1, h.2.1, fun q hq => h.2.2 q ?_⟩
  obtain ⟨j, w0⟩ := q
  obtain ⟨w, hw, rfl⟩ := wll_mem.mp hq
  unfold wst1 at hw
  by_cases hj : j = i
  · subst hj
    rw [List.getElem?_set] at hw
    simp at hw
    rw [hw.2]
    exact List.mem_cons_self
  · rw [List.getElem?_set_ne (fun q => hj q.symm)] at hw
    obtain ⟨h1, h2⟩ := wkill_get hw
    refine List.mem_cons_of_mem _ (List.mem_filter.mpr ⟨wll_mem.mpr ⟨w, h1, rfl⟩, ?_⟩)
    have h3 : ¬ (j + 1 = i ∧ (wv X w).category = 2) := by rw [wv_cat]; exact h2
    simp [hj]
    exact Decidable.not_and_iff_or_not.mp h3
theorem wl_st2 {X : wX} {ls : Array Slot} {nL : Nat} {pl : List (Option Value)} {i : Nat} {v : Value} (h : lv_has ls nL ((i, wv X v) :: (wll X pl).filter (fun q => !(q.1 == i) && (!(q.1 == i + 1) && !(q.1 + 1 == i && q.2.category == 2))))) : lv_has ls nL (wll X (wst2 pl i v)) := by
  refine ⟨h.1, h.2.1, fun q hq => h.2.2 q ?_⟩
  obtain ⟨j, w0⟩ := q
  obtain ⟨w, hw, rfl⟩ := wll_mem.mp hq
  unfold wst2 at hw
  by_cases hj : j = i
  · subst hj
    rw [List.getElem?_set] at hw
    simp at hw
    rw [hw.2]
    exact List.mem_cons_self
  · rw [List.getElem?_set_ne (fun q => hj q.symm)] at hw
    by_cases hj2 : j = i + 1
    · subst hj2
      rw [List.getElem?_set] at hw
      simp at hw
    · rw [List.getElem?_set_ne (fun q => hj2 q.symm)] at hw
      obtain ⟨h1, h2⟩ := wkill_get hw
      refine List.mem_cons_of_mem _ (List.mem_filter.mpr ⟨wll_mem.mpr ⟨w, h1, rfl⟩, ?_⟩)
      have h3 : ¬ (j + 1 = i ∧ (wv X w).category = 2) := by rw [wv_cat]; exact h2
      simp [hj, hj2]
      exact Decidable.not_and_iff_or_not.mp h3
/-- a method's arguments as its locals -/
def wen : List Value → List (Option Value)
  | [] => []
  | .long x :: r => some (.long x) :: none :: wen r
  | .double x :: r => some (.double x) :: none :: wen r
  | v :: r => some v :: wen r
/-! what the tables and the old cells say, all along -/
def wty (X : wX) : List (ClassId × FieldType) := [(xc X 0, .int), (xc X 1, .long), (xc X 2, .boolean), (xc X 3, .object "CodePointSets$MemberSet"), (xc X 4, .object "CodePointSets$OpenBracket")]
def wK (X : wX) (U : State) : Prop :=
  (∀ k, k < 1000 → xa X k = xz X + k) ∧ va_K (xD X) wcl (wty X) U ∧ (∀ q ∈ wNF, va_Nw (.fieldLinkNest q.1 q.2.1 q.2.2.1 q.2.2.2.1 q.2.2.2.2.1 q.2.2.2.2.2) U) ∧ (∀ q ∈ wNM, va_Nw (.methodLinkNest q.1 q.2.1 q.2.2.1 q.2.2.2) U) ∧
  (∀ (i n : Nat) (f : Nat → Int32), (xo X)[i]? = some (n, f) → va_T .int (xa X (1000 + i)) n (fun j => .int (f j)) (xA X) U U.heap) ∧
  (∀ q ∈ wSF, va_Z q.1 q.2.1 "[I" (.ref (xa X (1000 + q.2.2))) (xA X) U U.heap) ∧
  (∀ q ∈ wSS, vk_R q.1 q.2.1 q.2.2.1 (xa X (1100 + q.2.2.2)) U) ∧ vk_S wSN wSl wSb (fun i => xa X (1100 + i)) (fun i => xa X (1200 + i)) (xA X) U U.heap ∧ (∀ C ∈ wAO, va_AO C U) ∧ va_Z "java/lang/String" "COMPACT_STRINGS" "Z" (.int 1) (xA X) U U.heap ∧
  (va_Z "jdk/internal/util/Preconditions" "SIOOBE_FORMATTER" "Ljava/util/function/BiFunction;" (.ref (xa X 1300)) (xA X) U U.heap ∨ va_Z "jdk/internal/util/Preconditions" "SIOOBE_FORMATTER" "Ljava/util/function/BiFunction;" .null (xA X) U U.heap)
theorem wK.to {X : wX} {s U : State} (h : wK X s) (hW : s.WarmedH U.vm) (hq : ∀ q : Nat, q < s.heap.size → ¬ xA X q → U.heap[q]? = s.heap[q]?) : wK X U := by
  obtain ⟨h1, h2, h3, h4, h5, h6, h7, h8, h9, h10, h11⟩ := h
  exact ⟨h1, va_K.moved hW.alike h2, fun q z => va_Nw.warmF hW (h3 q z), fun q z => va_Nw.warmM hW (h4 q z), fun i n f z => (va_T.moved hW.alike (h5 i n f z)).kept hq, fun q z => (va_Z.moved hW.alike (h6 q z)).kept hq, fun q z => vk_R.warm hW (h7 q z), (vk_S.moved hW.alike h8).kept hq, fun C z => (h9 C z).moved hW.alike, (va_Z.moved hW.alike h10).kept hq, h11.elim (fun z => Or.inl ((va_Z.moved hW.alike z).kept hq)) (fun z => Or.inr ((va_Z.moved hW.alike z).kept hq))⟩
theorem wK.same {X : wX} {s U : State} (h : wK X s) (hv : U.vm = s.vm) (hh : U.heap = s.heap) : wK X U := by
  obtain ⟨h1, h2, h3, h4, h5, h6, h7, h8, h9, h10, h11⟩ := h
  have ha : s.vm.Alike U.vm := by rw [hv]; exact Vm.Alike.refl s.vm
  rw [wK, hh]
  exact ⟨h1, va_K.moved ha h2, fun q z => va_Nw.same rfl hv.symm (h3 q z), fun q z => va_Nw.same rfl hv.symm (h4 q z), fun i n f z => va_T.moved ha (h5 i n f z), fun q z => va_Z.moved ha (h6 q z), fun q z => vk_R.same hv (h7 q z), vk_S.moved ha h8, fun C z => (h9 C z).moved ha, va_Z.moved ha h10, h11.elim (fun z => Or.inl (va_Z.moved ha z)) (fun z => Or.inr (va_Z.moved ha z))⟩
theorem wK_T {X : wX} {s : State} (h : wK X s) {i n : Nat} {f : Nat → Int32} (he : (xo X)[i]? = some (n, f)) : va_T .int (xa X (1000 + i)) n (fun j => .int (f j)) (xA X) s s.heap := h.2.2.2.2.1 i n f he
/-! the judgement -/
def wG (X : wX) (M : wM) (R : Room) (B : Nat) (p : Program) (s : State) (m : MethodId) (args : Array Value) (meth : Method) (c : Code) (n0 : Nat) : Prop :=
  p.tables.exec = Jvm.exec ∧ c.code = M.2.1 ∧ meth.sig.returnType = M.2.2.2 ∧ meth.locks = false ∧ c.maxLocals = M.2.2.1 ∧ s.vm.findClass M.1.cls = some m.cls ∧ meth.name = M.1.name ∧ (∀ w ∈ wWL, w.before args s = true) ∧ wK X s ∧ s.heap.size = xz X + n0 ∧ n0 + B ≤ 1000 ∧ B ≤ R.cells
def WP (X : wX) (M : wM) (R : Room) (B : Nat) (E : wN) (nc u pc : Nat) (pl : List (Option Value)) (st : List Value) (h : wH) : Prop :=
  ∀ (p : Program) (e : Env) (s : State) (m : MethodId) (args : Array Value) (below : List Frame) (meth : Method) (c : Code) (n0 : Nat) (H : Heap) (ls : Array Slot) (locs : List Loc),
    wG X M R B p s m args meth c n0 → (h.length = n0 + nc ∧ nc ≤ B ∧ u ≤ R.slots) → lv_has ls M.2.2.1 (wll X pl) → va_P (xD X) wcl (ww X 0 h) H → va_S (xA X) s.heap H locs →
    W p (xl X) e R s m args below meth c H locs nc u (E below args s n0) (F0 m pc ls (st.map (wv X)))
section WG
variable {X : wX} {M : wM} {R : Room} {B : Nat} {p : Program} {s : State} {m : MethodId} {args : Array Value} {meth : Method} {c : Code} {n0 : Nat}
theorem wG_own (h : wG X M R B p s m args meth c n0) : s.vm.findClass M.1.cls = some m.cls := h.2.2.2.2.2.1
theorem wG_ts (h : wG X M R B p s m args meth c n0) : ∀ w ∈ wWL, w.before args s = true := h.2.2.2.2.2.2.2.1
theorem wG_W (h : wG X M R B p s m args meth c n0) : wK X s := h.2.2.2.2.2.2.2.2.1
theorem wG_K (h : wG X M R B p s m args meth c n0) : va_K (xD X) wcl (wty X) s := h.2.2.2.2.2.2.2.2.1.2.1
theorem wG_size (h : wG X M R B p s m args meth c n0) : s.heap.size = xz X + n0 ∧ n0 + B ≤ 1000 ∧ B ≤ R.cells := h.2.2.2.2.2.2.2.2.2
theorem wG_D (h : wG X M R B p s m args meth c n0) {g : wH} {nc u : Nat} (hn : g.length = n0 + nc ∧ nc ≤ B ∧ u ≤ R.slots) : va_D (xA X) (ww X 0 g) := by
  obtain ⟨h1, h2, h3⟩ := wG_size h
  exact ww_D (wG_W h).1 (by omega)
theorem wn_set {g : wH} {nc u q : Nat} {e : wE} (hn : g.length = n0 + nc ∧ nc ≤ B ∧ u ≤ R.slots) : (g.set q e).length = n0 + nc ∧ nc ≤ B ∧ u ≤ R.slots := by
  rw [List.length_set]
  exact hn
end WG
