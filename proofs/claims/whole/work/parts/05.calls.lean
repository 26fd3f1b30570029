/-! fields, new cells, calls, ends -/
/-- a field by the number of its class and its own number, as the pool of class own spells it at idx -/
def wF (own : String) (idx ci k : Nat) : Prop := ∃ r : vw_C, wcl[ci]? = some r ∧ k < r.2.2 ∧ (Cond.fieldLink own idx (r.2.1 k).1 (r.2.1 k).2.1 (r.2.1 k).2.2.1 ∈ wWL ∨ ∃ host, (own, idx, (r.2.1 k).1, (r.2.1 k).2.1, (r.2.1 k).2.2.1, host) ∈ wNF)
theorem wv_nar {X : wX} {ty : FieldType} {v : Value} (h : narrow ty v = v) : narrow ty (wv X v) = wv X v := by
  cases v with
  | ref a => cases ty <;> rfl
  | _ => exact h
theorem wv_fits (X : wX) (ty : FieldType) (v : Value) : fits ty (wv X v) = fits ty v := by
  cases v with
  | ref a => cases ty <;> rfl
  | _ => rfl
theorem wW_size {p : Program} {l : Launch} {e : Env} {R : Room} {s : State} {m : MethodId} {args : Array Value} {below : List Frame} {meth : Method} {c : Code} {H : Heap} {locs : List Loc} {cells slots : Nat} {Q : State → Prop} {g : JFrame}
    (f : H.size ≤ s.heap.size + cells → W p l e R s m args below meth c H locs cells slots Q g) : W p l e R s m args below meth c H locs cells slots Q g := fun T hT Y => f (by rw [← hT]; exact Y.heapSize) T hT Y
theorem wsize {X : wX} {s : State} {H : Heap} {h : wH} {n0 nc : Nat} {locs : List Loc} (hok : ∀ k, k < 1000 → xa X k = xz X + k) (hs : s.heap.size = xz X + n0) (hl : h.length = n0 + nc) (hb : h.length ≤ 1000) (hP : va_P (xD X) wcl (ww X 0 h) H) (hS : va_S (xA X) s.heap H locs) (hle : H.size ≤ s.heap.size + nc) : H.size = xz X + h.length := by
  have h1 : xz X + h.length ≤ H.size := by
    rcases Nat.eq_zero_or_pos h.length with hz | hz
    · have := hS.1
      omega
    · have hlt : h.length - 1 < h.length := by omega
      have hx := (hP (h.length - 1) _ (ww_at X (List.getElem?_eq_getElem hlt))).lt
      have hy := hok (h.length - 1) (by omega)
      have hx' : xa X (h.length - 1) < H.size := hx
      omega
  omega
/-! a method's contract -/
def wR (d mc ms : Nat) : Room := { frames := d, cells := mc, slots := ms, locals := 40 * d }
def wQc (X : wX) (n : Nat) (Q : Option Value → wH → Prop) : Array Value → State → Outcome → State → Prop := fun _ st o t => (∃ (r : Option Value) (h' : wH), o = .returned (r.map (wv X)) ∧ Q r h' ∧ h'.length = n ∧ va_P (xD X) wcl (ww X 0 h') t.heap) ∧ va_F (xA X) st t
def wEm (X : wX) (mc ms : Nat) (Q : Option Value → wH → Prop) : wN := fun below args s n0 => MQ below (wQc X (n0 + mc) Q) args s mc ms (xA X)
def wPc (X : wX) (mc : Nat) (as : List Value) (h : wH) : Array Value → State → Prop := va_Pc (as.map (wv X)) (fun U => U.heap.size = xz X + h.length ∧ h.length + mc ≤ 1000 ∧ va_P (xD X) wcl (ww X 0 h) U.heap ∧ wK X U)
def PM (X : wX) (M : wM) (d mc ms : Nat) (as : List Value) (h : wH) (Q : Option Value → wH → Prop) : Prop :=
  Met (xl X) M.1 (Cond.code M.1 M.2.1 M.2.2.1 M.2.2.2 :: wWL) (wR d mc ms) (wPc X mc as h) (wQc X (h.length + mc) Q) mc ms (xA X)
theorem wPc_blind (X : wX) (mc : Nat) (as : List Value) (h : wH) : FrameBlind (wPc X mc as h) := by
  intro a U g mk q
  obtain ⟨q0, q1, q2, q3, q4⟩ := q
  exact ⟨q0, q1, q2, q3, q4.same rfl rfl⟩
theorem wen_sl (X : wX) (as : List Value) : (lg_sl (as.map (wv X))).length = (wen as).length := by
  induction as with
  | nil => rfl
  | cons v r ih =>
    have e : lg_sl ((v :: r).map (wv X)) = (if (wv X v).category = 2 then [Slot.val (wv X v), .second] else [.val (wv X v)]) ++ lg_sl (r.map (wv X)) := by
      simp only [lg_sl, List.map_cons, List.flatMap_cons]
    rw [e, List.length_append, ih, wv_cat]
    cases v <;> simp [wen, Value.category] <;> omega
theorem wen_args (X : wX) : ∀ (as : List Value) (k i : Nat) (v : Value), (wen as)[i]? = some (some v) → (k + i, wv X v) ∈ lv_args k (as.map (wv X))
  | [], k, i, v, h => by simp [wen] at h
  | .long x :: r, k, 0, v, h => by
    simp [wen] at h
    subst h
    simp [lv_args, wv]
  | .long x :: r, k, 1, v, h => by simp [wen] at h
  | .long x :: r, k, i + 2, v, h => by
    have h2 := wen_args X r (k + 2) i v (by simpa [wen] using h)
    rw [show k + 2 + i = k + (i + 2) by omega] at h2
    simp only [List.map_cons, lv_args]
    exact List.mem_cons_of_mem _ h2
  | .double x :: r, k, 0, v, h => by
    simp [wen] at h
    subst h
    simp [lv_args, wv]
  | .double x :: r, k, 1, v, h => by simp [wen] at h
  | .double x :: r, k, i + 2, v, h => by
    have h2 := wen_args X r (k + 2) i v (by simpa [wen] using h)
    rw [show k + 2 + i = k + (i + 2) by omega] at h2
    simp only [List.map_cons, lv_args]
    exact List.mem_cons_of_mem _ h2
  | .int x :: r, k, 0, v, h => by
    simp [wen] at h
    subst h
    simp [lv_args, wv]
  | .int x :: r, k, i + 1, v, h => by
    have h2 := wen_args X r (k + 1) i v (by simpa [wen] using h)
    rw [show k + 1 + i = k + (i + 1) by omega] at h2
    simp only [List.map_cons, lv_args]
    exact List.mem_cons_of_mem _ h2
  | .float x :: r, k, 0, v, h => by
    simp [wen] at h
    subst h
    simp [lv_args, wv]
  | .float x :: r, k, i + 1, v, h => by
    have h2 := wen_args X r (k + 1) i v (by simpa [wen] using h)
    rw [show k + 1 + i = k + (i + 1) by omega] at h2
    simp only [List.map_cons, lv_args]
    exact List.mem_cons_of_mem _ h2
  | .null :: r, k, 0, v, h => by
    simp [wen] at h
    subst h
    simp [lv_args, wv]
  | .null :: r, k, i + 1, v, h => by
    have h2 := wen_args X r (k + 1) i v (by simpa [wen] using h)
    rw [show k + 1 + i = k + (i + 1) by omega] at h2
    simp only [List.map_cons, lv_args]
    exact List.mem_cons_of_mem _ h2
  | .ref x :: r, k, 0, v, h => by
    simp [wen] at h
    subst h
    simp [lv_args, wv]
  | .ref x :: r, k, i + 1, v, h => by
    have h2 := wen_args X r (k + 1) i v (by simpa [wen] using h)
    rw [show k + 1 + i = k + (i + 1) by omega] at h2
    simp only [List.map_cons, lv_args]
    exact List.mem_cons_of_mem _ h2
  | .retAddr x :: r, k, 0, v, h => by
    simp [wen] at h
    subst h
    simp [lv_args, wv]
  | .retAddr x :: r, k, i + 1, v, h => by
    have h2 := wen_args X r (k + 1) i v (by simpa [wen] using h)
    rw [show k + 1 + i = k + (i + 1) by omega] at h2
    simp only [List.map_cons, lv_args]
    exact List.mem_cons_of_mem _ h2
/-- a contract out of a walk from the method's entry -/
theorem PM.of {X : wX} {M : wM} {d mc ms : Nat} {as : List Value} {h : wH} {Q : Option Value → wH → Prop} (hy : plainName M.1.cls = true) (hlen : Nat.ble (wen as).length M.2.2.1 = true) (k : WP X M (wR d mc ms) mc (wEm X mc ms Q) 0 0 0 (wen as) [] h) : PM X M d mc ms as h Q := by
  refine Met.ofW (cc := M.2.1) (maxL := M.2.2.1) (ret := M.2.2.2) hy rfl ?_
  intro p e s m args below meth c s₁ Bd hml hv
  obtain ⟨rfl, hsz, h1000, hP, hK⟩ := hv
  have hts := atoms_spec (ws := Cond.code M.1 M.2.1 M.2.2.1 M.2.2.2 :: wWL) Bd.pre
  have hown : s.vm.findClass M.1.cls = some m.cls := findClass_of_methodNamed Bd.named
  have hl := lv_entry (as.map (wv X)) (n := M.2.2.1) (by rw [wen_sl]; exact Nat.le_of_ble_eq_true hlen)
  rw [lg_entry_eq]
  have hG : wG X M (wR d mc ms) mc p s m (as.map (wv X)).toArray meth c h.length := ⟨Bd.exec, Bd.bytes, Bd.returns, Bd.notSynchronized, hml, hown, (name_of_methodNamed Bd.named Bd.method).1, fun w hw => hts w (List.mem_cons_of_mem _ hw), hK, hsz, h1000, Nat.le_refl _⟩
  refine k p e s m _ below meth c h.length s.heap _ [] hG ⟨rfl, Nat.zero_le _, Nat.zero_le _⟩ ⟨hl.1, hl.2.1, fun q hq => ?_⟩ hP va_S.rf
  obtain ⟨i, w⟩ := q
  obtain ⟨v, hv, rfl⟩ := wll_mem.mp hq
  have h9 := wen_args X as 0 i v hv
  rw [Nat.zero_add] at h9
  exact hl.2.2 _ h9
/-- less known of the locals -/
def wle : List (Option Value) → List (Option Value) → Prop
  | [], _ => True
  | none :: r, [] => wle r []
  | none :: r, _ :: r' => wle r r'
  | some _ :: _, [] => False
  | some v :: r, o :: r' => o = some v ∧ wle r r'
theorem wle_get : ∀ (a b : List (Option Value)), wle a b → ∀ (i : Nat) (v : Value), a[i]? = some (some v) → b[i]? = some (some v)
  | [], _, _, i, v, h => by simp at h
  | none :: r, [], hw, 0, v, h => by simp at h
  | none :: r, [], hw, i + 1, v, h => by
    have := wle_get r [] hw i v (by simpa using h)
    simp at this
  | none :: r, o :: r', hw, 0, v, h => by simp at h
  | none :: r, o :: r', hw, i + 1, v, h => by simpa using wle_get r r' hw i v (by simpa using h)
  | some w :: r, [], hw, i, v, h => hw.elim
  | some w :: r, o :: r', hw, 0, v, h => by
    simp at h
    subst h
    simpa using hw.1
  | some w :: r, o :: r', hw, i + 1, v, h => by simpa using wle_get r r' hw.2 i v (by simpa using h)
section WC
variable {X : wX} {M : wM} {R : Room} {B : Nat} {E : wN} {nc u pc : Nat} {pl : List (Option Value)} {st : List Value} {h : wH}
theorem w_le {pl' : List (Option Value)} (hle : wle pl' pl) (k : WP X M R B E nc u pc pl' st h) : WP X M R B E nc u pc pl st h := by
  intro p e s m args below meth c n0 H ls locs hG hn hl hP hS
  refine k p e s m args below meth c n0 H ls locs hG hn ⟨hl.1, hl.2.1, fun q hq => ?_⟩ hP hS
  obtain ⟨i, w⟩ := q
  obtain ⟨v, hv, rfl⟩ := wll_mem.mp hq
  exact wl_at hl (wle_get _ _ hle i v hv)
theorem w_get {q idx ci kf : Nat} {fs : List Value} {v : Value} (hd : decode M.2.1 pc = .ok (.getfield idx, 3)) (hf : wF M.1.cls idx ci kf) (he : h[q]? = some (.inr (ci, fs))) (hv : fs[kf]? = some v) (k : WP X M R B E nc u (pc + 3) pl (v :: st) h) : WP X M R B E nc u pc pl (.ref q :: st) h := by
  intro p e s m args below meth c n0 H ls locs hG hn hl hP hS
  obtain ⟨⟨C, T, N⟩, hc, hk, hlk⟩ := hf
  have hv' : (fs.map (wv X))[kf]? = some (wv X v) := by rw [List.getElem?_map, hv]; rfl
  have k9 := k p e s m args below meth c n0 H ls locs hG hn hl hP hS
  rcases hlk with hlk | ⟨host, hlk⟩
  · exact va_get (ref := (T kf).1) (rest := st.map (wv X)) hG.1 hG.2.1 (wG_ts hG) (wcl_in _ _ hc) (wG_own hG) (wG_K hG) hP q (ww_at X he) hc kf hk (wG_ts hG _ hlk) (fun _ z => z) hv' hd k9
  · exact va_getN (ref := (T kf).1) (host := host) (rest := st.map (wv X)) hG.1 hG.2.1 (wG_ts hG) (wcl_in _ _ hc) (wG_own hG) (wG_K hG) hP q (ww_at X he) hc kf hk (va_Nw.use rfl ((wG_W hG).2.2.1 _ hlk)) (fun _ z => z) hv' hd k9
theorem w_put {q idx ci kf : Nat} {fs : List Value} {v v0 : Value} (hd : decode M.2.1 pc = .ok (.putfield idx, 3)) (hf : wF M.1.cls idx ci kf) (hfn : wfn ci kf = false) (he : h[q]? = some (.inr (ci, fs))) (hv0 : fs[kf]? = some v0) (hn0 : narrow (wct ci kf) v = v) (hfit : fits (wct ci kf) v = true) (k : WP X M R B E nc u (pc + 3) pl st (h.set q (.inr (ci, fs.set kf v)))) : WP X M R B E nc u pc pl (v :: .ref q :: st) h := by
  intro p e s m args below meth c n0 H ls locs hG hn hl hP hS
  obtain ⟨⟨C, T, N⟩, hc, hk, hlk⟩ := hf
  have hfin : (T kf).2.2.2 = false := wfn_ok _ _ hc kf hfn
  have hlt : kf < (fs.map (wv X)).length := by rw [List.length_map]; exact (List.getElem?_eq_some_iff.mp hv0).1
  have fin : ∀ (H1 : Heap) (locs1 : List Loc), va_P (xD X) wcl ((ww X 0 h).set q (xa X q, .inr (ci, (fs.map (wv X)).set kf (wv X v)))) H1 → va_D (xA X) ((ww X 0 h).set q (xa X q, .inr (ci, (fs.map (wv X)).set kf (wv X v)))) → va_S (xA X) s.heap H1 locs1 → W p (xl X) e R s m args below meth c H1 locs1 nc u (E below args s n0) (F0 m (pc + 3) ls (st.map (wv X))) := by
    intro H1 locs1 hP1 _ hS1
    refine k p e s m args below meth c n0 H1 ls locs1 hG (wn_set hn) hl ?_ hS1
    rw [ww_set0]
    have e9 : we X (.inr (ci, fs.set kf v)) = .inr (ci, (fs.map (wv X)).set kf (wv X v)) := by
      simp only [we, List.map_set]
    rw [e9]
    exact hP1
  rcases hlk with hlk | ⟨host, hlk⟩
  · exact va_put (ref := (T kf).1) (ty := wct ci kf) (rest := st.map (wv X)) hG.1 hG.2.1 (wG_ts hG) (wcl_in _ _ hc) (wct ci) (wct_ok _ _ hc) (wcn_ok _ _ hc) (wG_own hG) (wG_K hG) hP (wG_D hG hn) hS q (ww_at X he) hc kf hk (wG_ts hG _ hlk) (fun _ z => z) hfin (wct_ok _ _ hc kf hk) (wv_nar hn0) (by rw [wv_fits]; exact hfit) hlt hd fin
  · exact va_putN (ref := (T kf).1) (host := host) (ty := wct ci kf) (rest := st.map (wv X)) hG.1 hG.2.1 (wG_ts hG) (wcl_in _ _ hc) (wct ci) (wct_ok _ _ hc) (wcn_ok _ _ hc) (wG_own hG) (wG_K hG) hP (wG_D hG hn) hS q (ww_at X he) hc kf hk (va_Nw.use rfl ((wG_W hG).2.2.1 _ hlk)) (fun _ z => z) hfin (wct_ok _ _ hc kf hk) (wv_nar hn0) (by rw [wv_fits]; exact hfit) hlt hd fin
/-- a final field, in its constructor -/
theorem w_putF {q idx ci kf : Nat} {fs : List Value} {v v0 : Value} (hd : decode M.2.1 pc = .ok (.putfield idx, 3)) (hf : wF M.1.cls idx ci kf) (hfn : wff ci kf M.1.cls = true) (hin : M.1.name = "<init>") (hnn : ∀ host, (M.1.cls, idx, host) ∉ wNF.map (fun q => (q.1, q.2.1, q.2.2.2.2.2))) (he : h[q]? = some (.inr (ci, fs))) (hv0 : fs[kf]? = some v0) (hn0 : narrow (wct ci kf) v = v) (hfit : fits (wct ci kf) v = true) (k : WP X M R B E nc u (pc + 3) pl st (h.set q (.inr (ci, fs.set kf v)))) : WP X M R B E nc u pc pl (v :: .ref q :: st) h := by
  intro p e s m args below meth c n0 H ls locs hG hn hl hP hS
  obtain ⟨⟨C, T, N⟩, hc, hk, hlk⟩ := hf
  have hfin : (T kf).2.2.2 = true ∧ (T kf).1 = M.1.cls := wff_ok _ _ hc kf _ hfn
  have hlt : kf < (fs.map (wv X)).length := by rw [List.length_map]; exact (List.getElem?_eq_some_iff.mp hv0).1
  rcases hlk with hlk | ⟨host, hlk⟩
  · refine va_putF (ref := (T kf).1) (ty := wct ci kf) (rest := st.map (wv X)) hG.1 hG.2.1 (wG_ts hG) (wcl_in _ _ hc) (wct ci) (wct_ok _ _ hc) (wcn_ok _ _ hc) (wG_own hG) (wG_K hG) hP (wG_D hG hn) hS q (ww_at X he) hc kf hk (wG_ts hG _ hlk) (fun _ z => z) hfin.1 (hG.2.2.2.2.2.2.1.trans hin) hfin.2 (wct_ok _ _ hc kf hk) (wv_nar hn0) (by rw [wv_fits]; exact hfit) hlt hd (fun H1 locs1 hP1 _ hS1 => ?_)
    refine k p e s m args below meth c n0 H1 ls locs1 hG (wn_set hn) hl ?_ hS1
    rw [ww_set0]
    have e9 : we X (.inr (ci, fs.set kf v)) = .inr (ci, (fs.map (wv X)).set kf (wv X v)) := by
      simp only [we, List.map_set]
    rw [e9]
    exact hP1
  · exact absurd (List.mem_map.mpr ⟨_, hlk, rfl⟩) (hnn host)
/-- a table of ints that nobody writes -/
theorem w_gets {idx i : Nat} {C n : String} (hd : decode M.2.1 pc = .ok (.getstatic idx, 3)) (hf : (C, n, i) ∈ wSF) (hw : Cond.fieldLink M.1.cls idx C n "[I" ∈ wWL) (k : WP X M R B E nc u (pc + 3) pl (.ref (1000 + i) :: st) h) : WP X M R B E nc u pc pl st h := by
  intro p e s m args below meth c n0 H ls locs hG hn hl hP hS
  exact va_gets (rest := st.map (wv X)) hG.1 hG.2.1 ((wG_W hG).2.2.2.2.2.1 _ hf) hS (wG_own hG) (wG_ts hG _ hw) (fun _ z => z) hd (k p e s m args below meth c n0 H ls locs hG hn hl hP hS)
/-- a literal -/
theorem w_ldcS {idx i : Nat} {tx : String} (hd : decode M.2.1 pc = .ok (.ldc idx, 2)) (hf : (M.1.cls, idx, tx, i) ∈ wSS) (k : WP X M R B E nc u (pc + 2) pl (.ref (1100 + i) :: st) h) : WP X M R B E nc u pc pl st h := by
  intro p e s m args below meth c n0 H ls locs hG hn hl hP hS
  exact va_ldcS (rest := st.map (wv X)) hG.1 hG.2.1 (wG_own hG) ((wG_W hG).2.2.2.2.2.2.1 _ hf) hd (k p e s m args below meth c n0 H ls locs hG hn hl hP hS)
/-! ends -/
theorem w_iret {v : Int32} {Q : Option Value → wH → Prop} (hd : decode M.2.1 pc = .ok (.ireturn, 1)) (hr : M.2.2.2 = some .int) (hq : Q (some (.int v)) h) : WP X M R B (wEm X nc R.slots Q) nc u pc pl [.int v] h := by
  intro p e s m args below meth c n0 H ls locs hG hn hl hP hS
  exact W.widen (Nat.le_refl _) hn.2.2 (W.iret (v := v) hG.1 hG.2.1 (hG.2.2.1.trans hr) (fun t ht hW => ⟨⟨some (.int v), h, rfl, hq, hn.1, by rw [ht]; exact hP⟩, hS.F ht⟩) hS.2.2 hd hG.2.2.2.1)
theorem w_zret {v : Int32} {Q : Option Value → wH → Prop} (hd : decode M.2.1 pc = .ok (.ireturn, 1)) (hr : M.2.2.2 = some .boolean) (hb : v = 0 ∨ v = 1) (hq : Q (some (.int v)) h) : WP X M R B (wEm X nc R.slots Q) nc u pc pl [.int v] h := by
  intro p e s m args below meth c n0 H ls locs hG hn hl hP hS
  have hz : narrow .boolean (.int v) = .int v := by rcases hb with rfl | rfl <;> decide +kernel
  exact W.widen (Nat.le_refl _) hn.2.2 (W.zret (v := v) (ty := .boolean) hG.1 hG.2.1 (hG.2.2.1.trans hr) hz (fun t ht hW => ⟨⟨some (.int v), h, rfl, hq, hn.1, by rw [ht]; exact hP⟩, hS.F ht⟩) hS.2.2 hd hG.2.2.2.1)
theorem w_lret {v : Int64} {Q : Option Value → wH → Prop} (hd : decode M.2.1 pc = .ok (.lreturn, 1)) (hr : M.2.2.2 = some .long) (hq : Q (some (.long v)) h) : WP X M R B (wEm X nc R.slots Q) nc u pc pl [.long v] h := by
  intro p e s m args below meth c n0 H ls locs hG hn hl hP hS
  exact W.widen (Nat.le_refl _) hn.2.2 (W.lret (v := v) hG.1 hG.2.1 (hG.2.2.1.trans hr) (fun t ht hW => ⟨⟨some (.long v), h, rfl, hq, hn.1, by rw [ht]; exact hP⟩, hS.F ht⟩) hS.2.2 hd hG.2.2.2.1)
theorem w_vret {Q : Option Value → wH → Prop} (hd : decode M.2.1 pc = .ok (.return_, 1)) (hr : M.2.2.2 = none) (hq : Q none h) : WP X M R B (wEm X nc R.slots Q) nc u pc pl [] h := by
  intro p e s m args below meth c n0 H ls locs hG hn hl hP hS
  exact W.widen (Nat.le_refl _) hn.2.2 (W.vret hG.1 hG.2.1 (hG.2.2.1.trans hr) (fun t ht hW => ⟨⟨none, h, rfl, hq, hn.1, by rw [ht]; exact hP⟩, hS.F ht⟩) hS.2.2 hd hG.2.2.2.1)
theorem w_aret {v : Value} {rt : FieldType} {Q : Option Value → wH → Prop} (hd : decode M.2.1 pc = .ok (.areturn, 1)) (hr : M.2.2.2 = some rt) (hrt : (∃ n, rt = .object n) ∨ ∃ t, rt = .array t) (hv : wref v = true) (hq : Q (some v) h) : WP X M R B (wEm X nc R.slots Q) nc u pc pl [v] h := by
  intro p e s m args below meth c n0 H ls locs hG hn hl hP hS
  have hv' : wv X v = .null ∨ ∃ a, wv X v = .ref a := by
    rcases wref_or hv with rfl | ⟨q, rfl⟩
    · exact Or.inl rfl
    · exact Or.inr ⟨_, rfl⟩
  exact W.widen (Nat.le_refl _) hn.2.2 (W.aret (v := wv X v) hG.1 hG.2.1 (hG.2.2.1.trans hr) hrt hv' (fun t ht hW => ⟨⟨some v, h, rfl, hq, hn.1, by rw [ht]; exact hP⟩, hS.F ht⟩) hS.2.2 hd hG.2.2.2.1)
/-! calls -/
theorem w_after {p : Program} {e : Env} {s : State} {m : MethodId} {args : Array Value} {below : List Frame} {meth : Method} {c : Code} {H : Heap} {locs : List Loc} {cells slots mc ms n : Nat} {ls : Array Slot} {st0 : List Value} {Qf : State → Prop} {a : Array Value} {Q : Option Value → wH → Prop}
    (hr : va_Run p (xl X) e R s m args below meth c H locs cells slots mc ms (F0 m pc ls st0) (st.map (wv X)) (wQc X n Q a) (xA X)) (hS : va_S (xA X) s.heap H locs)
    (kk : ∀ (r : Option Value) (h' : wH) (H1 : Heap) (locs1 : List Loc), Q r h' → h'.length = n → va_P (xD X) wcl (ww X 0 h') H1 → va_S (xA X) s.heap H1 locs1 → W p (xl X) e R s m args below meth c H1 locs1 (cells + mc) (slots + ms) Qf (F0 m (pc + 3) ls ((r.toList ++ st).map (wv X)))) : W p (xl X) e R s m args below meth c H locs cells slots Qf (F0 m pc ls st0) := by
  intro T hT Y
  obtain ⟨v, st₀, t, T', L, h0, Y', hL, e1, e2, ⟨⟨r, h', hv, hq, hl', hP'⟩, hz, hk⟩, stp⟩ := hr T hT Y
  cases hv
  rw [h0] at hz hk
  have hS' : va_S (xA X) s.heap T'.heap (locs ++ L) := by
    refine ⟨Nat.le_trans hS.1 (by rw [e1]; exact hz), fun q h1 h2 => ?_, fun q hq => ?_⟩
    · rw [e1, hk q (Nat.lt_of_lt_of_le h1 hS.1) h2]
      exact hS.2.1 q h1 h2
    · rcases List.mem_append.mp hq with h | h
      · exact hS.2.2 q h
      · exact hL q h
  obtain ⟨t2, a1, b1⟩ := kk r h' T'.heap (locs ++ L) hq hl' (by rw [e1]; exact hP') hS' T' rfl Y'
  refine ⟨t2, stp t2 ?_, b1⟩
  have e3 : (r.toList ++ st).map (wv X) = (r.map (wv X)).toList ++ st.map (wv X) := by cases r <;> rfl
  rw [e3] at a1
  exact a1
theorem w_cats (X : wX) (l : List Value) : ((l.map (wv X)).map fun v => v.category) = l.map fun v => v.category := by
  rw [List.map_map]
  congr 1
  funext v
  exact wv_cat X v
theorem wWL_good (M' : wM) (hc : Cond.code M'.1 M'.2.1 M'.2.2.1 M'.2.2.2 ∈ wWL) : GoodIn wWL (Cond.code M'.1 M'.2.1 M'.2.2.1 M'.2.2.2 :: wWL) := by
  intro w hw
  rcases List.mem_cons.mp hw with rfl | hw
  · exact ⟨hc, wWL_ok _ hc⟩
  · exact ⟨hw, wWL_ok _ hw⟩
/-- what the tables say of a method that is called: its number of arguments (without the receiver) is n -/
def wCy (M' : wM) (n : Nat) : Prop := Cond.code M'.1 M'.2.1 M'.2.2.1 M'.2.2.2 ∈ wWL ∧ Cond.initialized M'.1.cls ∈ wWL ∧ M'.1.cls ≠ "java/lang/invoke/MethodHandle" ∧ M'.1.cls ≠ "java/lang/invoke/VarHandle" ∧ (parseMethodDescriptor M'.1.desc).map (fun d => d.parameters.length) = some n ∧ M'.2.2.1 ≤ 21
def wCl (own : String) (idx : Nat) (M' : wM) : Prop := Cond.methodLink own idx M'.1 ∈ wWL ∨ ∃ host, (own, idx, M'.1, host) ∈ wNM
def wCv (M' : wM) : Prop := Cond.instanceMethod M'.1 ∈ wWL ∧ Cond.selects M'.1.cls M'.1 M'.1 ∈ wWL
theorem w_pre {p : Program} {s : State} {m : MethodId} {args : Array Value} {meth : Method} {c : Code} {H : Heap} {locs : List Loc} {n0 mc' : Nat} {as : List Value} (hG : wG X M R B p s m args meth c n0) (hn : h.length = n0 + nc ∧ nc ≤ B ∧ u ≤ R.slots) (hP : va_P (xD X) wcl (ww X 0 h) H) (hS : va_S (xA X) s.heap H locs) (hmc : nc + mc' ≤ B) (hle : H.size ≤ s.heap.size + nc) :
    ∀ U : State, U.heap = H → s.WarmedH U.vm → wPc X mc' as h (as.map (wv X)).toArray U := by
  intro U hU hW
  obtain ⟨g1, g2, g3⟩ := wG_size hG
  have hsz := wsize (wG_W hG).1 g1 hn.1 (by omega) hP hS hle
  exact ⟨rfl, by rw [hU]; exact hsz, by omega, by rw [hU]; exact hP, (wG_W hG).to hW (fun q h1 h2 => by rw [hU]; exact hS.2.1 q h1 h2)⟩
theorem w_callV {q idx ci n d' mc' ms' : Nat} {M' : wM} {as stk fs : List Value} {Q : Option Value → wH → Prop} {r0 : vw_C} (hd : decode M.2.1 pc = .ok (.invokevirtual idx, 3)) (hy : wCy M' n) (hl0 : wCl M.1.cls idx M') (hv0 : wCv M') (he : h[q]? = some (.inr (ci, fs))) (hc : wcl[ci]? = some r0) (hcn : r0.1 = M'.1.cls) (hst : stk = as.reverse ++ .ref q :: st) (hal : as.length = n) (hM : PM X M' d' mc' ms' (.ref q :: as) h Q) (hdd : d' + 1 ≤ R.frames) (hll : 40 * d' + 40 ≤ R.locals) (hmc : nc + mc' ≤ B) (hms : u + ms' ≤ R.slots) (hcat : (st.map fun v => v.category).sum ≤ 8)
    (k : ∀ r h', Q r h' → WP X M R B E (nc + mc') (u + ms') (pc + 3) pl (r.toList ++ st) h') : WP X M R B E nc u pc pl stk h := by
  subst hst
  intro p e s m args below meth c n0 H ls locs hG hn hl hP hS
  refine wW_size (fun hle => ?_)
  obtain ⟨y1, y2, y3, y4, y5, y6⟩ := hy
  have hpre := w_pre (as := .ref q :: as) hG hn hP hS hmc hle
  obtain ⟨g1, g2, g3⟩ := wG_size hG
  have hstk : ((as.reverse ++ .ref q :: st).map (wv X)) = (as.map (wv X)).reverse ++ .ref (xa X q) :: st.map (wv X) := by simp [wv]
  have hrec : ∃ cell : Cell, H[xa X q]? = some cell ∧ cell.vm.isStatics = false ∧ s.vm.findClass M'.1.cls = some cell.cls := by
    rw [← hcn]
    exact va_recv (wG_K hG) hP hc (ww_at X he)
  have hrun : va_Run p (xl X) e R s m args below meth c H locs nc u mc' ms' (F0 m pc ls ((as.reverse ++ .ref q :: st).map (wv X))) (st.map (wv X)) (wQc X (h.length + mc') Q (Value.ref (xa X q) :: as.map (wv X)).toArray) (xA X) := by
    have hR : (wR d' mc' ms').frames + 1 ≤ R.frames ∧ 8 + (M'.2.2.1 + 11) + (wR d' mc' ms').locals ≤ R.locals := ⟨hdd, by show 8 + (M'.2.2.1 + 11) + 40 * d' ≤ R.locals; omega⟩
    have hroom : 2 * (F0 m pc ls ((as.reverse ++ .ref q :: st).map (wv X))).monitorRoom + ((st.map (wv X)).map fun v => v.category).sum ≤ 8 := lv_room (by rw [w_cats]; exact hcat)
    rcases hl0 with hlk | ⟨host, hlk⟩
    · exact va_runV (C := M'.1.cls) (bytes := M'.2.1) (maxL := M'.2.2.1) (ret := M'.2.2.2) (n := n) (cc := M.2.1) (nL := M.2.2.1) (Ts := wWL) (own := M.1.cls) ⟨hG.1, hG.2.1, hG.2.2.2.2.1, wG_own hG, wG_ts hG⟩ hM ⟨callB_of n (wG_ts hG) (wWL_good M' y1) rfl rfl rfl (wG_ts hG _ y2) (wG_ts hG _ hlk) ⟨y3, y4, y5⟩ hR, wG_ts hG _ hv0.1, wG_ts hG _ hv0.2⟩ ⟨wPc_blind _ _ _ _, hrec, hpre⟩ rfl (by rw [List.length_map]; exact hal) hl.1 hstk hroom hd ⟨by omega, hms⟩
    · exact va_runVN (C := M'.1.cls) (host := host) (bytes := M'.2.1) (maxL := M'.2.2.1) (ret := M'.2.2.2) (n := n) (cc := M.2.1) (nL := M.2.2.1) (Ts := wWL) (own := M.1.cls) ⟨hG.1, hG.2.1, hG.2.2.2.2.1, wG_own hG, wG_ts hG⟩ hM ⟨va_cnB n (wG_ts hG) (wWL_good M' y1) rfl rfl rfl ((wG_W hG).2.2.2.1 _ hlk) (wG_ts hG _ y2) ⟨y3, y4, y5⟩ hR, wG_ts hG _ hv0.1, wG_ts hG _ hv0.2⟩ ⟨wPc_blind _ _ _ _, hrec, hpre⟩ rfl (by rw [List.length_map]; exact hal) hl.1 hstk hroom hd ⟨by omega, hms⟩
  exact w_after hrun hS (fun r h' H1 locs1 hq hl' hP' hS' => k r h' hq p e s m args below meth c n0 H1 ls locs1 hG ⟨by omega, hmc, hms⟩ hl hP' hS')
theorem w_callS {idx n d' mc' ms' : Nat} {M' : wM} {as stk : List Value} {Q : Option Value → wH → Prop} (hd : decode M.2.1 pc = .ok (.invokestatic idx, 3)) (hy : wCy M' n) (hl0 : wCl M.1.cls idx M') (hs0 : Cond.static M'.1 ∈ wWL) (hst : stk = as.reverse ++ st) (hal : as.length = n) (hM : PM X M' d' mc' ms' as h Q) (hdd : d' + 1 ≤ R.frames) (hll : 40 * d' + 40 ≤ R.locals) (hmc : nc + mc' ≤ B) (hms : u + ms' ≤ R.slots) (hcat : (st.map fun v => v.category).sum ≤ 8)
    (k : ∀ r h', Q r h' → WP X M R B E (nc + mc') (u + ms') (pc + 3) pl (r.toList ++ st) h') : WP X M R B E nc u pc pl stk h := by
  subst hst
  intro p e s m args below meth c n0 H ls locs hG hn hl hP hS
  refine wW_size (fun hle => ?_)
  obtain ⟨y1, y2, y3, y4, y5, y6⟩ := hy
  have hpre := w_pre (as := as) hG hn hP hS hmc hle
  obtain ⟨g1, g2, g3⟩ := wG_size hG
  have hstk : ((as.reverse ++ st).map (wv X)) = (as.map (wv X)).reverse ++ st.map (wv X) := by simp
  have hrun : va_Run p (xl X) e R s m args below meth c H locs nc u mc' ms' (F0 m pc ls ((as.reverse ++ st).map (wv X))) (st.map (wv X)) (wQc X (h.length + mc') Q (as.map (wv X)).toArray) (xA X) := by
    have hR : (wR d' mc' ms').frames + 1 ≤ R.frames ∧ 8 + (M'.2.2.1 + 11) + (wR d' mc' ms').locals ≤ R.locals := ⟨hdd, by show 8 + (M'.2.2.1 + 11) + 40 * d' ≤ R.locals; omega⟩
    have hroom : 2 * (F0 m pc ls ((as.reverse ++ st).map (wv X))).monitorRoom + ((st.map (wv X)).map fun v => v.category).sum ≤ 8 := lv_room (by rw [w_cats]; exact hcat)
    rcases hl0 with hlk | ⟨host, hlk⟩
    · exact va_runS (bytes := M'.2.1) (maxL := M'.2.2.1) (ret := M'.2.2.2) (n := n) (cc := M.2.1) (nL := M.2.2.1) (Ts := wWL) (own := M.1.cls) ⟨hG.1, hG.2.1, hG.2.2.2.2.1, wG_own hG, wG_ts hG⟩ hM ⟨callB_of n (wG_ts hG) (wWL_good M' y1) rfl rfl rfl (wG_ts hG _ y2) (wG_ts hG _ hlk) ⟨y3, y4, y5⟩ hR, wG_ts hG _ hs0⟩ ⟨wPc_blind _ _ _ _, hpre⟩ rfl (by rw [List.length_map]; exact hal) hl.1 hstk hroom hd ⟨by omega, hms⟩
    · exact va_runSN (host := host) (bytes := M'.2.1) (maxL := M'.2.2.1) (ret := M'.2.2.2) (n := n) (cc := M.2.1) (nL := M.2.2.1) (Ts := wWL) (own := M.1.cls) ⟨hG.1, hG.2.1, hG.2.2.2.2.1, wG_own hG, wG_ts hG⟩ hM ⟨va_cnB n (wG_ts hG) (wWL_good M' y1) rfl rfl rfl ((wG_W hG).2.2.2.1 _ hlk) (wG_ts hG _ y2) ⟨y3, y4, y5⟩ hR, wG_ts hG _ hs0, trivial⟩ ⟨wPc_blind _ _ _ _, hpre⟩ rfl (by rw [List.length_map]; exact hal) hl.1 hstk hroom hd ⟨by omega, hms⟩
  exact w_after hrun hS (fun r h' H1 locs1 hq hl' hP' hS' => k r h' hq p e s m args below meth c n0 H1 ls locs1 hG ⟨by omega, hmc, hms⟩ hl hP' hS')
theorem w_callI {q idx n d' mc' ms' : Nat} {M' : wM} {as stk : List Value} {Q : Option Value → wH → Prop} (hd : decode M.2.1 pc = .ok (.invokespecial idx, 3)) (hy : wCy M' n) (hyn : M'.1.name = "<init>") (hyr : M'.2.2.2 = none) (hl0 : wCl M.1.cls idx M') (hv0 : Cond.instanceMethod M'.1 ∈ wWL) (hst : stk = as.reverse ++ .ref q :: st) (hal : as.length = n) (hM : PM X M' d' mc' ms' (.ref q :: as) h Q) (hdd : d' + 1 ≤ R.frames) (hll : 40 * d' + 40 ≤ R.locals) (hmc : nc + mc' ≤ B) (hms : u + ms' ≤ R.slots) (hcat : (st.map fun v => v.category).sum ≤ 8)
    (k : ∀ r h', Q r h' → WP X M R B E (nc + mc') (u + ms') (pc + 3) pl (r.toList ++ st) h') : WP X M R B E nc u pc pl stk h := by
  subst hst
  obtain ⟨yM, bM, lM, rM⟩ := M'
  dsimp only at hyn hyr hv0
  subst hyr
  intro p e s m args below meth c n0 H ls locs hG hn hl hP hS
  refine wW_size (fun hle => ?_)
  obtain ⟨y1, y2, y3, y4, y5, y6⟩ := hy
  have hpre := w_pre (as := .ref q :: as) hG hn hP hS hmc hle
  obtain ⟨g1, g2, g3⟩ := wG_size hG
  have hstk : ((as.reverse ++ .ref q :: st).map (wv X)) = (as.map (wv X)).reverse ++ .ref (xa X q) :: st.map (wv X) := by simp [wv]
  have hrun : va_Run p (xl X) e R s m args below meth c H locs nc u mc' ms' (F0 m pc ls ((as.reverse ++ .ref q :: st).map (wv X))) (st.map (wv X)) (wQc X (h.length + mc') Q (Value.ref (xa X q) :: as.map (wv X)).toArray) (xA X) := by
    have hR : (wR d' mc' ms').frames + 1 ≤ R.frames ∧ 8 + (lM + 11) + (wR d' mc' ms').locals ≤ R.locals := ⟨hdd, by show 8 + (lM + 11) + 40 * d' ≤ R.locals; dsimp only at y6; omega⟩
    have hroom : 2 * (F0 m pc ls ((as.reverse ++ .ref q :: st).map (wv X))).monitorRoom + ((st.map (wv X)).map fun v => v.category).sum ≤ 8 := lv_room (by rw [w_cats]; exact hcat)
    rcases hl0 with hlk | ⟨host, hlk⟩
    · exact va_runI (bytes := bM) (maxL := lM) (n := n) (cc := M.2.1) (nL := M.2.2.1) (Ts := wWL) (own := M.1.cls) ⟨hG.1, hG.2.1, hG.2.2.2.2.1, wG_own hG, wG_ts hG⟩ hM ⟨callB_of n (wG_ts hG) (wWL_good (yM, bM, lM, none) y1) rfl rfl rfl (wG_ts hG _ y2) (wG_ts hG _ hlk) ⟨y3, y4, y5⟩ hR, hyn, wG_ts hG _ hv0⟩ ⟨wPc_blind _ _ _ _, hpre⟩ rfl (by rw [List.length_map]; exact hal) hl.1 hstk hroom hd ⟨by omega, hms⟩
    · exact va_runIN (host := host) (bytes := bM) (maxL := lM) (n := n) (cc := M.2.1) (nL := M.2.2.1) (Ts := wWL) (own := M.1.cls) ⟨hG.1, hG.2.1, hG.2.2.2.2.1, wG_own hG, wG_ts hG⟩ hM ⟨va_cnB n (wG_ts hG) (wWL_good (yM, bM, lM, none) y1) rfl rfl rfl ((wG_W hG).2.2.2.1 _ hlk) (wG_ts hG _ y2) ⟨y3, y4, y5⟩ hR, hyn, wG_ts hG _ hv0⟩ ⟨wPc_blind _ _ _ _, hpre⟩ rfl (by rw [List.length_map]; exact hal) hl.1 hstk hroom hd ⟨by omega, hms⟩
  exact w_after hrun hS (fun r h' H1 locs1 hq hl' hP' hS' => k r h' hq p e s m args below meth c n0 H1 ls locs1 hG ⟨by omega, hmc, hms⟩ hl hP' hS')
/-- Object's constructor -/
theorem w_objInit {q idx : Nat} (hd : decode M.2.1 pc = .ok (.invokespecial idx, 3)) (h1 : Cond.methodLink M.1.cls idx Lib.objectInit ∈ wWL) (h2 : Cond.instanceMethod Lib.objectInit ∈ wWL) (h3 : Cond.code Lib.objectInit ⟨#[0xb1]⟩ 1 none ∈ wWL) (hf : 1 ≤ R.frames) (hll : 40 ≤ R.locals) (hcat : (st.map fun v => v.category).sum ≤ 8) (k : WP X M R B E nc u (pc + 3) pl st h) : WP X M R B E nc u pc pl (.ref q :: st) h := by
  intro p e s m args below meth c n0 H ls locs hG hn hl hP hS
  have hroom : 2 * (F0 m pc ls ((Value.ref q :: st).map (wv X))).monitorRoom + ((st.map (wv X)).map fun v => v.category).sum ≤ 8 := lv_room (by rw [w_cats]; exact hcat)
  exact W.objInit (g := F0 m pc ls ((Value.ref q :: st).map (wv X))) (rest := st.map (wv X)) hG.1 hG.2.1 (wG_own hG) (wG_ts hG _ h1) (wG_ts hG _ h2) (wG_ts hG _ h3) rfl (hl.1.trans hG.2.2.2.2.1.symm) rfl hd hf (by omega) (k p e s m args below meth c n0 H ls locs hG hn hl hP hS)
end WC
