/-! the law's loop and its beginning: written by wip/gen/lw4.py -/
theorem hPR.keep {h h' : wH} {tk : List (Nat × Int32)} {B : Nat → Br} {d nx o s v : Nat} {b : Nat → Nat} (a : hPR h tk B d nx o s v b) (c : ∀ j, 13 ≤ j → j < 48 → h'[j]? = h[j]?) : hPR h' tk B d nx o s v b := by
  obtain ⟨a1, ⟨t, l, pos, a2⟩, ⟨f, a3, a3'⟩, a4, ⟨E1, S1, a5⟩, ⟨E2, S2, a6⟩, a7, a8, a9, a10, a11, a12⟩ := a
  have i1 := P1_in a7
  have i2 := P1_in a8
  refine ⟨(c _ (by omega) (by omega)).trans a1, ⟨t, l, pos, a2.keep (fun j z1 z2 => c j (by omega) (by omega))⟩, ⟨f, (c _ (by omega) (by omega)).trans a3, a3'⟩, fun k hk => ?_, ⟨E1, S1, a5.keep (fun j z1 z2 => c j (by omega) (by omega))⟩, ⟨E2, S2, a6.keep (fun j z1 z2 => c j (by omega) (by omega))⟩, a7, a8, a9, a10, a11, a12⟩
  have i3 := P1_in (a9 k hk)
  exact ⟨(c _ (by omega) (by omega)).trans (a4 k hk).1, (a4 k hk).2.keep (fun j z1 z2 => c j (by omega) (by omega))⟩
theorem hCP.keep {h h' : wH} {t : List Nat} {G : gG} (a : hCP h t G) (c : ∀ j, 0 ≤ j → j < 57 → h'[j]? = h[j]?) : hCP h' t G := by
  obtain ⟨sp, Es, Ss, pr, a1, a2, ⟨f, a3, a3'⟩, a4, a5, ⟨E, S, a6⟩, ⟨o, a7⟩, ⟨tk, B, d, nx, o9, s9, v9, b9, a8⟩, a9, a10, a11, a12⟩ := a
  have i2 := P2_in a10
  refine ⟨sp, Es, Ss, pr, (c _ (by omega) (by omega)).trans a1, a2.keep (fun j z1 z2 => c j (by omega) (by omega)), ⟨f, (c _ (by omega) (by omega)).trans a3, a3'⟩, fun r hr => ?_, a5.keep (fun j z1 z2 => c j (by omega) (by omega)), ⟨E, S, a6.keep (fun j z1 z2 => c j (by omega) (by omega))⟩, ⟨o, a7.keep (fun j z1 z2 => c j (by omega) (by omega))⟩, ⟨tk, B, d, nx, o9, s9, v9, b9, a8.keep (fun j z1 z2 => c j (by omega) (by omega))⟩, a9, a10, a11, a12⟩
  have i3 := P2_in (a9 r hr)
  exact (a4 r hr).keep (fun j z1 z2 => c j (by omega) (by omega))
section LW4
variable {X : wX} {E : wN} {nm : String}
set_option maxHeartbeats 4000000 in
set_option maxRecDepth 100000 in
theorem lw_loop (hT : xTab X) {xs : Nat → Int32} {L : Nat} (hs : (xo X)[13]? = some (L, xs)) (hL : L ≤ 2048) (END : ∀ (h : wH) (i : Nat), WP X (M_LW_law nm) room_1 68 E 68 10981 587 [some (.ref (1000 + 13)), some (.ref 0), some (.ref 57), some (.int (nI i))] [] h) : ∀ (n i : Nat) (h : wH) (t : List Nat) (G : gG) (EE SS : Nat → List Nat), L + 4 - i < n → i ≤ 2048 → LR h t G EE SS → WP X (M_LW_law nm) room_1 68 E 68 10981 18 [some (.ref (1000 + 13)), some (.ref 0), some (.ref 57), some (.int (nI i))] [] h := by
  intro n
  induction n with
  | zero => intro i h t G EE SS k1; omega
  | succ n ih =>
    intro i h t G EE SS k1 k2 a
    refine w_iload_n d_LW_law_18 rfl ?_
    refine w_aload_n d_LW_law_19 rfl rfl ?_
    refine w_tlen (v := nI L) d_LW_law_20 hs rfl ?_
    refine w_iconst (v := nI 4) d_LW_law_21 (by decide) ?_
    refine w_isub d_LW_law_22 ?_
    refine w_icmp_gt (tgt := 587) d_LW_law_23 rfl (fun c23 => ?_) (fun c23 => ?_)
    · exact END h i
    · have hi : i + 4 ≤ L := Nat.not_lt.mp (fun z => c23 ((lw_lt hL k2).mpr z))
      obtain ⟨k, hk, e0⟩ := and_31 (xs i)
      have K : ∀ (h' : wH) (t' : List Nat) (G' : gG) (EE' SS' : Nat → List Nat), LR h' t' G' EE' SS' → WP X (M_LW_law nm) room_1 68 E 68 10981 581 [some (.ref (1000 + 13)), some (.ref 0), some (.ref 57), some (.int (nI i))] [] h' := by
        intro h' t' G' EE' SS' a'
        refine w_iinc (v := nI (i + 4)) d_LW_law_581 rfl (nI_add _ _) (by show _ < 4; decide) ?_
        refine w_pl (pl' := [some (.ref (1000 + 13)), some (.ref 0), some (.ref 57), some (.int (nI (i + 4)))]) rfl ?_
        refine w_goto (tgt := 18) d_LW_law_584 rfl ?_
        exact ih (i + 4) h' t' G' EE' SS' (by omega) (by omega) a'
      refine w_aload_n d_LW_law_26 rfl rfl ?_
      refine w_iload_n d_LW_law_27 rfl ?_
      refine w_ti d_LW_law_28 hs (vp_in_nI (by omega) (by omega)) ?_
      refine w_topi (y := xs i) (by rw [nI_clamp (by omega)]) ?_
      refine w_bipush (v := nI 31) d_LW_law_29 (by decide) ?_
      refine w_iand d_LW_law_31 ?_
      refine w_topi (y := nI k) e0 ?_
      rcases Nat.lt_or_ge k 17 with h17 | h17
      · rcases k with _ | _ | _ | _ | _ | _ | _ | _ | _ | _ | _ | _ | _ | _ | _ | _ | _ | k
        · exact w_tableIn (off := 84) (tgt := 116) d_LW_law_32 (by decide) (by decide) (by decide) (by decide) (lw_c0 hT hs hL hi a K)
        · exact w_tableIn (off := 107) (tgt := 139) d_LW_law_32 (by decide) (by decide) (by decide) (by decide) (lw_c1 hT hs hL hi a K)
        · exact w_tableIn (off := 118) (tgt := 150) d_LW_law_32 (by decide) (by decide) (by decide) (by decide) (lw_c2 hT hs hL hi a K)
        · exact w_tableIn (off := 131) (tgt := 163) d_LW_law_32 (by decide) (by decide) (by decide) (by decide) (lw_c3 hT hs hL hi a K)
        · exact w_tableIn (off := 154) (tgt := 186) d_LW_law_32 (by decide) (by decide) (by decide) (by decide) (lw_c4 hT hs hL hi a K)
        · exact w_tableIn (off := 177) (tgt := 209) d_LW_law_32 (by decide) (by decide) (by decide) (by decide) (lw_c5 hT hs hL hi a K)
        · exact w_tableIn (off := 200) (tgt := 232) d_LW_law_32 (by decide) (by decide) (by decide) (by decide) (lw_c6 hT hs hL hi a K)
        · exact w_tableIn (off := 243) (tgt := 275) d_LW_law_32 (by decide) (by decide) (by decide) (by decide) (lw_c7 hT hs hL hi a K)
        · exact w_tableIn (off := 266) (tgt := 298) d_LW_law_32 (by decide) (by decide) (by decide) (by decide) (lw_c8 hT hs hL hi a K)
        · exact w_tableIn (off := 289) (tgt := 321) d_LW_law_32 (by decide) (by decide) (by decide) (by decide) (lw_c9 hT hs hL hi a K)
        · exact w_tableIn (off := 322) (tgt := 354) d_LW_law_32 (by decide) (by decide) (by decide) (by decide) (lw_c10 hT hs hL hi a K)
        · exact w_tableIn (off := 345) (tgt := 377) d_LW_law_32 (by decide) (by decide) (by decide) (by decide) (lw_c11 hT hs hL hi a K)
        · exact w_tableIn (off := 378) (tgt := 410) d_LW_law_32 (by decide) (by decide) (by decide) (by decide) (lw_c12 hT hs hL hi a K)
        · exact w_tableIn (off := 401) (tgt := 433) d_LW_law_32 (by decide) (by decide) (by decide) (by decide) (lw_c13 hT hs hL hi a K)
        · exact w_tableIn (off := 424) (tgt := 456) d_LW_law_32 (by decide) (by decide) (by decide) (by decide) (lw_c14 hT hs hL hi a K)
        · exact w_tableIn (off := 457) (tgt := 489) d_LW_law_32 (by decide) (by decide) (by decide) (by decide) (lw_c15 hT hs hL hi a K)
        · exact w_tableIn (off := 490) (tgt := 522) d_LW_law_32 (by decide) (by decide) (by decide) (by decide) (lw_c16 hT hs hL hi a K)
        · omega
      · exact w_tableOut (tgt := 581) d_LW_law_32 (Or.inr (by rw [nI_toInt (by omega)]; omega)) (by decide) (K h t G EE SS a)
set_option maxHeartbeats 4000000 in
set_option maxRecDepth 100000 in
theorem lw_begin (hT : xTab X) {xs : Nat → Int32} {L : Nat} (hs : (xo X)[13]? = some (L, xs)) (hL : L ≤ 2048) (END : ∀ (h : wH) (i : Nat), WP X (M_LW_law nm) room_1 68 E 68 10981 587 [some (.ref (1000 + 13)), some (.ref 0), some (.ref 57), some (.int (nI i))] [] h) : WP X (M_LW_law nm) room_1 68 E 0 0 0 [some (.ref (1000 + 13)), none, none, none] [] [] := by
  have hl0 : ([] : wH).length = 0 := rfl
  refine w_new (n := 6) d_LW_law_0 n_LW_7 (fun r hr => by cases hr; rfl) (by decide) (by decide) ?_
  refine w_nm (fun h1 e1 => ?_)
  refine w_eq (nc' := 1) (u' := 6) (st' := [.ref 0]) (by rw [hl0]) ?_
  have c1 := wP_new e1 hl0
  rw [wdf_6] at c1
  have hl1 : h1.length = 1 := by have z9 := wP_len e1 hl0; omega
  refine w_dup d_LW_law_3 rfl ?_
  refine w_callI (q := 0) (as := []) (st := [.ref 0]) d_LW_law_4 yM_CP_init rfl rfl l_LW_9 iM_CP_init rfl rfl (m_CP_init hl1 c1) (by decide) (by decide) (by decide) (by decide) (Nat.le_of_ble_eq_true rfl) ?_
  rintro _ h2 ⟨rfl, hm2, pCP2, g2⟩
  have hl2 : h2.length = 57 := by omega
  refine w_eq (nc' := 57) (u' := 5462) (st' := [.ref 0]) rfl ?_
  refine w_astore_n d_LW_law_7 (by show _ < 4; decide) rfl ?_
  refine w_pl (pl' := [some (.ref (1000 + 13)), some (.ref 0), none, none]) rfl ?_
  refine w_new (n := 16) d_LW_law_8 n_LW_10 (fun r hr => by cases hr; rfl) (by decide) (by decide) ?_
  refine w_nm (fun h3 e3 => ?_)
  refine w_eq (nc' := 58) (u' := 5478) (st' := [.ref 57]) (by rw [hl2]) ?_
  have c3 := wP_new e3 hl2
  rw [wdf_7] at c3
  have pCP2_3 := pCP2.keep (fun j z1 z2 => wP_off e3 hl2 (by omega))
  have hl3 : h3.length = 58 := by have z9 := wP_len e3 hl2; omega
  refine w_dup d_LW_law_11 rfl ?_
  refine w_callI (q := 57) (as := []) (st := [.ref 57]) d_LW_law_12 yM_MO_init rfl rfl l_LW_12 iM_MO_init rfl rfl (m_MO_init hl3 c3) (by decide) (by decide) (by decide) (by decide) (Nat.le_of_ble_eq_true rfl) ?_
  rintro _ h4 ⟨rfl, hm4, pMO4, g4⟩
  have hl4 : h4.length = 68 := by omega
  refine w_eq (nc' := 68) (u' := 10981) (st' := [.ref 57]) rfl ?_
  have pCP2_4 := pCP2_3.keep (fun j z1 z2 => g4 j (by omega))
  refine w_astore_n d_LW_law_15 (by show _ < 4; decide) rfl ?_
  refine w_pl (pl' := [some (.ref (1000 + 13)), some (.ref 0), some (.ref 57), none]) rfl ?_
  refine w_iconst (v := nI 0) d_LW_law_16 (by decide) ?_
  refine w_istore_n d_LW_law_17 (by show _ < 4; decide) ?_
  refine w_pl (pl' := [some (.ref (1000 + 13)), some (.ref 0), some (.ref 57), some (.int (nI 0))]) rfl ?_
  have hrel : ∀ r, r < 3 → mE0 r = ((fun _ => (([], []) : List Nat × List Nat)) r).1 ∧ sR ((fun _ => (([], []) : List Nat × List Nat)) r).2 (mS0 r) := fun r hr => ⟨if_neg (by omega), sR_nil⟩
  have hgk : gOk [] (fun _ => ([], [])) := ⟨(fun x hx => by cases hx), fun r hr => ⟨⟨List.Pairwise.nil, fun x hx => (by cases hx)⟩, Nat.zero_le _, List.Pairwise.nil, (fun y hy => by cases hy), Nat.zero_le _⟩⟩
  exact lw_loop hT hs hL END (L + 5) 0 h4 [] (fun _ => ([], [])) mE0 mS0 (by omega) (by omega) ⟨pCP2_4, pMO4, hgk, hrel, if_pos rfl, rfl⟩
end LW4
