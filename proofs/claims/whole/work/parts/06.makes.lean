/-! new cells, arraycopy -/
theorem wv_def (X : wX) (ty : FieldType) : wv X (defaultValue ty) = defaultValue ty := by cases ty <;> rfl
def wCN (own : String) (idx ci : Nat) : Prop := ∃ r : vw_C, wcl[ci]? = some r ∧ Cond.classLink own idx r.1 ∈ wWL ∧ Cond.instantiable r.1 r.2.2 ∈ wWL ∧ Cond.initialized r.1 ∈ wWL
/-- a fresh object's fields -/
def wdf (ci n : Nat) : List Value := (List.range n).map (fun j => defaultValue (wct ci j))
theorem wdf_map (X : wX) (ci n : Nat) : (wdf ci n).map (wv X) = wdf ci n := by
  unfold wdf
  rw [List.map_map]
  congr 1
  funext j
  exact wv_def X _
theorem wdf_at {ci n j : Nat} (h : j < n) : defaultValue (wct ci j) = vp_V (wdf ci n) j := by
  unfold vp_V wdf
  rw [List.getD_eq_getElem?_getD, List.getElem?_map, List.getElem?_range h]
  rfl
section WQ
variable {X : wX} {M : wM} {R : Room} {B : Nat} {E : wN} {nc u pc : Nat} {pl : List (Option Value)} {st : List Value} {h : wH}
/-- the world with one more cell -/
theorem w_grow {s : State} {H H1 : Heap} {locs : List Loc} {e : wE} (hP : va_P (xD X) wcl (ww X 0 h) H) (hS : va_S (xA X) s.heap H locs) (hz : H.size = xa X h.length) (z1 : H1.size = xa X h.length + 1) (o1 : ∀ q : Nat, q < xa X h.length → H1[q]? = H[q]?) (he : va_at (xD X) wcl (xa X h.length, we X e) H1) :
    va_P (xD X) wcl (ww X 0 (h ++ [e])) H1 ∧ va_S (xA X) s.heap H1 locs := by
  have hk : ∀ (k : Nat) (x : Nat × va_E), (ww X 0 h)[k]? = some x → H1[x.1]? = H[x.1]? := fun k x hx => o1 x.1 (by rw [← hz]; exact (hP k x hx).lt)
  refine ⟨?_, Nat.le_trans hS.1 (by omega), fun x g1 g2 => (o1 x (by rw [← hz]; exact Nat.lt_of_lt_of_le g1 hS.1)).trans (hS.2.1 x g1 g2), hS.2.2⟩
  rw [ww_push, Nat.zero_add]
  refine (hP.kept hk).app (fun k x hx => ?_)
  have hz9 : k < 1 := (List.getElem?_eq_some_iff.mp hx).1
  rw [show k = 0 by omega] at hx
  cases hx
  exact he
theorem w_new {idx ci n : Nat} (hd : decode M.2.1 pc = .ok (.new idx, 3)) (hc : wCN M.1.cls idx ci) (hN : ∀ r, wcl[ci]? = some r → r.2.2 = n) (hB : nc + 1 ≤ B) (hu : u + n ≤ R.slots) (k : WP X M R B E (nc + 1) (u + n) (pc + 3) pl (.ref h.length :: st) (h ++ [.inr (ci, wdf ci n)])) : WP X M R B E nc u pc pl st h := by
  intro p e s m args below meth c n0 H ls locs hG hn hl hP hS
  refine wW_size (fun hle => ?_)
  obtain ⟨⟨C, T, N⟩, hcl, h1, h2, h3⟩ := hc
  have hNn : N = n := hN _ hcl
  subst hNn
  obtain ⟨g1, g2, g3⟩ := wG_size hG
  have ha := (wG_W hG).1 h.length (by omega)
  have hsz : H.size = xa X h.length := by rw [ha]; exact wsize (wG_W hG).1 g1 hn.1 (by omega) hP hS hle
  have hKn := (wG_K hG).1 ci _ hcl
  refine W.newcK (g := F0 m pc ls (st.map (wv X))) hG.1 hG.2.1 (wG_own hG) (wG_ts hG _ h1) (wG_ts hG _ h2) (wG_ts hG _ h3) rfl hd (by omega) hu hKn.2.1 hsz fun H1 kC hkC e1 z1 o1 => ?_
  have he : va_at (xD X) wcl (xa X h.length, we X (.inr (ci, wdf ci N))) H1 := by
    show ∃ r : vw_C, wcl[ci]? = some r ∧ t_OB (xa X h.length) ((xD X).1 ci) r.2.2 ((xD X).2 ci) H1 (vp_V ((wdf ci N).map (wv X)))
    rw [wdf_map]
    exact ⟨_, hcl, (u_born (wct ci) (wG_ts hG) (wcl_in _ _ hcl) hKn hkC e1 (wct_ok _ _ hcl)).to (fun j hj => wdf_at hj)⟩
  obtain ⟨hP1, hS1⟩ := w_grow hP hS hsz z1 o1 he
  exact k p e s m args below meth c n0 H1 ls locs hG ⟨by rw [List.length_append, List.length_singleton]; omega, hB, hu⟩ hl hP1 hS1
theorem w_newI {n : Int32} {N : Nat} (hd : decode M.2.1 pc = .ok (.newarray .int, 2)) (hw : Cond.arrayClass .int ∈ wWL) (hn0 : ¬ n < 0) (hN : n.toNatClampNeg = N) (hsm : N ≤ 100000) (hB : nc + 1 ≤ B) (hu : u + N ≤ R.slots) (k : WP X M R B E (nc + 1) (u + N) (pc + 2) pl (.ref h.length :: st) (h ++ [.inl (0, N, .inl (fun _ => 0))])) : WP X M R B E nc u pc pl (.int n :: st) h := by
  intro p e s m args below meth c n0 H ls locs hG hn hl hP hS
  refine wW_size (fun hle => ?_)
  obtain ⟨g1, g2, g3⟩ := wG_size hG
  have ha := (wG_W hG).1 h.length (by omega)
  have hsz : H.size = xa X h.length := by rw [ha]; exact wsize (wG_W hG).1 g1 hn.1 (by omega) hP hS hle
  refine va_newaK (atype := .int) (g := F0 m pc ls ((Value.int n :: st).map (wv X))) (rest := st.map (wv X)) hG.1 hG.2.1 (wG_ts hG _ hw) rfl hd rfl hn0 hN (by show N * 4 ≤ _; omega) (by omega) hu hsz fun H1 cA e1 z1 o1 hAr hNm => ?_
  have hcA : cA = xc X 0 := by
    have h9 : s.vm.findClass ("[" ++ FieldType.int.toString) = some (xc X 0) := ((wG_K hG).2 0 _ rfl).2
    exact Option.some.inj (hNm.symm.trans h9)
  subst hcA
  obtain ⟨hP1, hS1⟩ := w_grow (e := .inl (0, N, .inl (fun _ => 0))) hP hS hsz z1 o1 e1
  exact k p e s m args below meth c n0 H1 ls locs hG ⟨by rw [List.length_append, List.length_singleton]; omega, hB, hu⟩ hl hP1 hS1
theorem w_newJ {n : Int32} {N : Nat} (hd : decode M.2.1 pc = .ok (.newarray .long, 2)) (hw : Cond.arrayClass .long ∈ wWL) (hn0 : ¬ n < 0) (hN : n.toNatClampNeg = N) (hsm : N ≤ 100000) (hB : nc + 1 ≤ B) (hu : u + N ≤ R.slots) (k : WP X M R B E (nc + 1) (u + N) (pc + 2) pl (.ref h.length :: st) (h ++ [.inl (1, N, .inr (.inl (fun _ => 0)))])) : WP X M R B E nc u pc pl (.int n :: st) h := by
  intro p e s m args below meth c n0 H ls locs hG hn hl hP hS
  refine wW_size (fun hle => ?_)
  obtain ⟨g1, g2, g3⟩ := wG_size hG
  have ha := (wG_W hG).1 h.length (by omega)
  have hsz : H.size = xa X h.length := by rw [ha]; exact wsize (wG_W hG).1 g1 hn.1 (by omega) hP hS hle
  refine va_newaK (atype := .long) (g := F0 m pc ls ((Value.int n :: st).map (wv X))) (rest := st.map (wv X)) hG.1 hG.2.1 (wG_ts hG _ hw) rfl hd rfl hn0 hN (by show N * 8 ≤ _; omega) (by omega) hu hsz fun H1 cA e1 z1 o1 hAr hNm => ?_
  have hcA : cA = xc X 1 := by
    have h9 : s.vm.findClass ("[" ++ FieldType.long.toString) = some (xc X 1) := ((wG_K hG).2 1 _ rfl).2
    exact Option.some.inj (hNm.symm.trans h9)
  subst hcA
  obtain ⟨hP1, hS1⟩ := w_grow (e := .inl (1, N, .inr (.inl (fun _ => 0)))) hP hS hsz z1 o1 e1
  exact k p e s m args below meth c n0 H1 ls locs hG ⟨by rw [List.length_append, List.length_singleton]; omega, hB, hu⟩ hl hP1 hS1
theorem w_newZ {n : Int32} {N : Nat} (hd : decode M.2.1 pc = .ok (.newarray .boolean, 2)) (hw : Cond.arrayClass .boolean ∈ wWL) (hn0 : ¬ n < 0) (hN : n.toNatClampNeg = N) (hsm : N ≤ 100000) (hB : nc + 1 ≤ B) (hu : u + N ≤ R.slots) (k : WP X M R B E (nc + 1) (u + N) (pc + 2) pl (.ref h.length :: st) (h ++ [.inl (2, N, .inl (fun _ => 0))])) : WP X M R B E nc u pc pl (.int n :: st) h := by
  intro p e s m args below meth c n0 H ls locs hG hn hl hP hS
  refine wW_size (fun hle => ?_)
  obtain ⟨g1, g2, g3⟩ := wG_size hG
  have ha := (wG_W hG).1 h.length (by omega)
  have hsz : H.size = xa X h.length := by rw [ha]; exact wsize (wG_W hG).1 g1 hn.1 (by omega) hP hS hle
  refine va_newaK (atype := .boolean) (g := F0 m pc ls ((Value.int n :: st).map (wv X))) (rest := st.map (wv X)) hG.1 hG.2.1 (wG_ts hG _ hw) rfl hd rfl hn0 hN (by show N * 1 ≤ _; omega) (by omega) hu hsz fun H1 cA e1 z1 o1 hAr hNm => ?_
  have hcA : cA = xc X 2 := by
    have h9 : s.vm.findClass ("[" ++ FieldType.boolean.toString) = some (xc X 2) := ((wG_K hG).2 2 _ rfl).2
    exact Option.some.inj (hNm.symm.trans h9)
  subst hcA
  obtain ⟨hP1, hS1⟩ := w_grow (e := .inl (2, N, .inl (fun _ => 0))) hP hS hsz z1 o1 e1
  exact k p e s m args below meth c n0 H1 ls locs hG ⟨by rw [List.length_append, List.length_singleton]; omega, hB, hu⟩ hl hP1 hS1
theorem w_newQ {n : Int32} {N t idx : Nat} {C : String} (hd : decode M.2.1 pc = .ok (.anewarray idx, 3)) (hw : Cond.classLink M.1.cls idx C ∈ wWL) (ho : C ∈ wAO) (ht : (wty X)[t]? = some (xc X t, .object C)) (hn0 : ¬ n < 0) (hN : n.toNatClampNeg = N) (hsm : N ≤ 100000) (hB : nc + 1 ≤ B) (hu : u + N ≤ R.slots) (k : WP X M R B E (nc + 1) (u + N) (pc + 3) pl (.ref h.length :: st) (h ++ [.inl (t, N, .inr (.inr (.inr (.inr (fun _ => none)))))])) : WP X M R B E nc u pc pl (.int n :: st) h := by
  subst hN
  intro p e s m args below meth c n0 H ls locs hG hn hl hP hS
  refine wW_size (fun hle => ?_)
  obtain ⟨g1, g2, g3⟩ := wG_size hG
  have ha := (wG_W hG).1 h.length (by omega)
  have hsz : H.size = xa X h.length := by rw [ha]; exact wsize (wG_W hG).1 g1 hn.1 (by omega) hP hS hle
  refine W.anew (g := F0 m pc ls ((Value.int n :: st).map (wv X))) (rest := st.map (wv X)) hG.1 hG.2.1 (wG_own hG) (wG_ts hG _ hw) (va_AO.use ((wG_W hG).2.2.2.2.2.2.2.2.1 _ ho)) rfl hd rfl hn0 (by omega) (by omega) hu fun cA kA comp f1 f2 f3 f4 => ?_
  obtain ⟨kA2, comp2, -, -, -, f5⟩ := ((wG_K hG).2 t _ ht).2
  have hcA : cA = xc X t := Option.some.inj (f1.symm.trans f5)
  subst hcA
  rw [hsz]
  generalize hH1 : H.push ({ cls := xc X t, slots := Array.replicate n.toNatClampNeg .null, vm := .none } : Cell) = H1
  have z1 : H1.size = xa X h.length + 1 := by rw [← hH1, Array.size_push, hsz]
  have e1 : H1[xa X h.length]? = some (arrV (xc X t) n.toNatClampNeg (fun _ => .null)) := by rw [← hH1, ← hsz, Array.getElem?_push_size, ← arrV_new]
  have o1 : ∀ q : Nat, q < xa X h.length → H1[q]? = H[q]? := fun q hq => by rw [← hH1, Array.getElem?_push, if_neg (by rw [hsz]; exact Nat.ne_of_lt hq)]
  obtain ⟨hP1, hS1⟩ := w_grow (e := .inl (t, n.toNatClampNeg, .inr (.inr (.inr (.inr (fun _ => none)))))) hP hS hsz z1 o1 e1
  exact k p e s m args below meth c n0 H1 ls locs hG ⟨by rw [List.length_append, List.length_singleton]; omega, hB, hu⟩ hl hP1 hS1
/-- System.arraycopy of ints, of longs -/
theorem w_copyI {idx q0 q1 n0' n1' : Nat} {f g : Nat → Int32} {sp dp n : Int32} (hd : decode M.2.1 pc = .ok (.invokestatic idx, 3)) (w1 : Cond.methodLink M.1.cls idx arraycopyName ∈ wWL) (w2 : Cond.native arraycopyName ∈ wWL) (w3 : Cond.static arraycopyName ∈ wWL) (w4 : Cond.initialized "java/lang/System" ∈ wWL) (he0 : h[q0]? = some (.inl (0, n0', .inl f))) (he1 : h[q1]? = some (.inl (0, n1', .inl g))) (h1 : ¬ sp < 0) (h2 : ¬ dp < 0) (h3 : ¬ n < 0) (h4 : sp.toNatClampNeg + n.toNatClampNeg ≤ n0') (h5 : dp.toNatClampNeg + n.toNatClampNeg ≤ n1') (hf : 1 ≤ R.frames) (hll : 40 ≤ R.locals) (hcat : (st.map fun v => v.category).sum ≤ 8)
    (k : WP X M R B E nc u (pc + 3) pl st (h.set q1 (.inl (0, n1', .inl (va_cpy f g sp.toNatClampNeg dp.toNatClampNeg n.toNatClampNeg))))) : WP X M R B E nc u pc pl (.int n :: .int dp :: .ref q1 :: .int sp :: .ref q0 :: st) h := by
  intro p e s m args below meth c n0 H ls locs hG hn hl hP hS
  have hcat' : ((st.map (wv X)).map fun v => v.category).sum ≤ 8 := by rw [w_cats]; exact hcat
  have hnf : nativeFrameWords "java/lang/System" "arraycopy" 5 = 7 := by decide +kernel
  refine va_copyi (ty := .int) (rest := st.map (wv X)) hG.1 hG.2.1 (hG.2.2.2.2.1.trans hl.1.symm) (wG_own hG) (wG_ts hG _ w1) (wG_ts hG _ w2) (wG_ts hG _ w3) (wG_ts hG _ w4) (wG_K hG) hP (wG_D hG hn) hS q0 q1 0 0 (ww_at X he0) (ww_at X he1) rfl rfl rfl h1 h2 h3 h4 h5 (fun _ _ => rfl) hf (by omega) hd (fun H1 locs1 hP1 _ hS1 => ?_)
  refine k p e s m args below meth c n0 H1 ls locs1 hG (wn_set hn) hl ?_ hS1
  rw [ww_set0]
  exact hP1
theorem w_copyJ {idx q0 q1 n0' n1' : Nat} {f g : Nat → Int64} {sp dp n : Int32} (hd : decode M.2.1 pc = .ok (.invokestatic idx, 3)) (w1 : Cond.methodLink M.1.cls idx arraycopyName ∈ wWL) (w2 : Cond.native arraycopyName ∈ wWL) (w3 : Cond.static arraycopyName ∈ wWL) (w4 : Cond.initialized "java/lang/System" ∈ wWL) (he0 : h[q0]? = some (.inl (1, n0', .inr (.inl f)))) (he1 : h[q1]? = some (.inl (1, n1', .inr (.inl g)))) (h1 : ¬ sp < 0) (h2 : ¬ dp < 0) (h3 : ¬ n < 0) (h4 : sp.toNatClampNeg + n.toNatClampNeg ≤ n0') (h5 : dp.toNatClampNeg + n.toNatClampNeg ≤ n1') (hf : 1 ≤ R.frames) (hll : 40 ≤ R.locals) (hcat : (st.map fun v => v.category).sum ≤ 8)
    (k : WP X M R B E nc u (pc + 3) pl st (h.set q1 (.inl (1, n1', .inr (.inl (va_cpy f g sp.toNatClampNeg dp.toNatClampNeg n.toNatClampNeg)))))) : WP X M R B E nc u pc pl (.int n :: .int dp :: .ref q1 :: .int sp :: .ref q0 :: st) h := by
  intro p e s m args below meth c n0 H ls locs hG hn hl hP hS
  have hcat' : ((st.map (wv X)).map fun v => v.category).sum ≤ 8 := by rw [w_cats]; exact hcat
  have hnf : nativeFrameWords "java/lang/System" "arraycopy" 5 = 7 := by decide +kernel
  refine va_copyl (ty := .long) (rest := st.map (wv X)) hG.1 hG.2.1 (hG.2.2.2.2.1.trans hl.1.symm) (wG_own hG) (wG_ts hG _ w1) (wG_ts hG _ w2) (wG_ts hG _ w3) (wG_ts hG _ w4) (wG_K hG) hP (wG_D hG hn) hS q0 q1 1 1 (ww_at X he0) (ww_at X he1) rfl rfl rfl h1 h2 h3 h4 h5 (fun _ _ => rfl) hf (by omega) hd (fun H1 locs1 hP1 _ hS1 => ?_)
  refine k p e s m args below meth c n0 H1 ls locs1 hG (wn_set hn) hl ?_ hS1
  rw [ww_set0]
  exact hP1
end WQ
