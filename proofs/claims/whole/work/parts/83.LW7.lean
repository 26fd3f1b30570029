/-! the law comes to its end with true: written by wip/gen/lw7.py -/
theorem whole_start {p : Program} {e : Env} {s : State} {m : MethodId} {below : List Frame} {meth : Method} {c : Code} (l : Launch) {b L : Nat} {xs : Nat → Int32} (hL : L ≤ 2048) (C0 : lw_At p s m meth c b L xs) : W p l e room_1 s m #[Value.ref b] below meth c s.heap [] 0 0 (lw_Z below #[Value.ref b] s) (entryFrame m ([Value.ref b] : List Value).toArray 4) := by
  obtain ⟨hexec, hcode, hret, hml, hown, hts, hX, hbl, hlk, hgv⟩ := C0
  obtain ⟨X, rfl, hK, hz, hT, hs, hb⟩ := wK_start l hts hX hbl hgv
  have END : ∀ (h : wH) (i : Nat), WP X (M_LW_law meth.name) room_1 68 (fun below args s n0 t => (args = #[Value.ref b] ∧ n0 = 0) → lw_Z below #[Value.ref b] s t) 68 10981 587 [some (.ref (1000 + 13)), some (.ref 0), some (.ref 57), some (.int (nI i))] [] h := by
    intro h i
    refine w_iconst (v := nI 1) d_LW_law_587 (by decide) ?_
    intro p e s m args below meth c n0 H ls locs hG hn hl hP hS
    by_cases ha : args = #[Value.ref b] ∧ n0 = 0
    · obtain ⟨rfl, rfl⟩ := ha
      obtain ⟨g1, g2, g3⟩ := wG_size hG
      have hret := lw_ret (p := p) (l := xl X) (e := e) (s := s) (m := m) (below := below) (meth := meth) (c := c) (b := b) (pc := 588) (H := H) (ls := ls) hG.1 hG.2.1 hG.2.2.1 hG.2.2.2.1 d_LW_law_588
      refine va_forget (fun q hq => ?_) (W.widen (k := 600000) (n := 7302250) (by decide) (by decide) ?_)
      · have := hS.2.2 q hq
        have : xz X ≤ q.base := this
        omega
      · intro T hT9 Y
        obtain ⟨t, s1, q⟩ := hret T hT9 Y
        exact ⟨t, s1, fun _ => q⟩
    · intro T hT9 Y
      exact ⟨_, Steps.refl _, fun z => absurd z ha⟩
  have K := lw_begin (nm := meth.name) hT hs hL END
  have hw : ∀ w ∈ wWL, w.before #[Value.ref b] s = true := fun w h => hts w (List.mem_filter.mp h).1
  have hG : wG X (M_LW_law meth.name) room_1 68 p s m #[Value.ref b] meth c 0 := ⟨hexec, hcode, hret, hlk, hml, hown, rfl, hw, hK, by rw [hz]; rfl, by decide, by decide⟩
  have hen := lv_entry ([Value.ref b]) (n := 4) (Nat.le_of_ble_eq_true rfl)
  rw [lg_entry_eq]
  have hlo : lv_has _ 4 (wll X [some (.ref (1000 + 13)), none, none, none]) := ⟨hen.1, hen.2.1, fun q hq => by
    obtain ⟨i, w⟩ := q
    obtain ⟨v, hv, rfl⟩ := wll_mem.mp hq
    rcases i with _ | _ | _ | _ | i
    · cases hv
      rw [show wv X (.ref (1000 + 13)) = .ref b from congrArg Value.ref hb]
      exact hen.2.2 _ (by simp [lv_args])
    · cases hv
    · cases hv
    · cases hv
    · exact absurd (List.getElem?_eq_some_iff.mp hv).1 (by simp)⟩
  intro T hT9 Y
  obtain ⟨t, s1, q⟩ := K p e s m #[Value.ref b] below meth c 0 s.heap _ [] hG ⟨rfl, Nat.zero_le _, Nat.zero_le _⟩ hlo (fun k q hq => by cases hq) va_S.rf T hT9 Y
  exact ⟨t, s1, q ⟨rfl, rfl⟩⟩

