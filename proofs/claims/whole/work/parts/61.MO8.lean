/-! the reference's print, second part: written by wip/gen/mo8.py -/
theorem eT_2 {a b : Nat} {r : List Nat} : eT (a :: b :: r) = rT a (b - 1) ++ eT r := rfl
theorem m1_nle {n : Nat} (h : n < 2 ^ 63) : ¬ lN n ≤ (-1 : Int64) := by
  intro z
  have h1 : (lN n).toInt ≤ (-1 : Int64).toInt := Int64.le_iff_toInt_le.mp z
  rw [pf_lI h] at h1
  have h2 : (-1 : Int64).toInt = -1 := by decide
  omega
section MO8
variable {X : wX}
set_option maxHeartbeats 4000000 in
set_option maxRecDepth 100000 in
theorem m_MO_putString {h : wH} {sz ap gd dp : Int32} {o : List Nat} (hw : hW h sz ap gd dp o) {a b c : Nat} (ha : a < 1114112) (hb : b < 1114112) (hc : c ≤ 1114112) : PM X M_MO_putString 2 0 0 [.ref 57, .long (lN (kOf a b c - 4398048608256))] h (fun z h' => z = none ∧ hW h' sz ap gd dp (o ++ sT (kOf a b c)) ∧ wO2 h h') := by
  have hx0 := hw.1
  rw [show kOf a b c - 4398048608256 = (a * 2 ^ 42 + b * 2 ^ 21 + c) by unfold kOf; omega]
  obtain ⟨sa, sb, sc⟩ := sOk_abc ha hb hc
  have hv : (a * 2 ^ 42 + b * 2 ^ 21 + c) < 2 ^ 63 := by omega
  refine PM.at (pl := [some (.ref 57), some (.long (lN (a * 2 ^ 42 + b * 2 ^ 21 + c))), none, none]) rfl rfl (by simp [wle, wen]) ?_
  generalize hEN : wEm X 0 0 _ = EN
  refine w_lload_n d_MO_putString_0 rfl ?_
  refine w_ldc2 (v := lN 2097151) d_MO_putString_1 k_MO_211 ?_
  refine w_land d_MO_putString_4 ?_
  refine w_topl (y := lN ((a * 2 ^ 42 + b * 2 ^ 21 + c) % 2097152)) (kMask (by omega)) ?_
  refine w_l2i d_MO_putString_5 ?_
  refine w_topi (y := nI c) ((lN_i _).trans (congrArg nI (show (a * 2 ^ 42 + b * 2 ^ 21 + c) % 2097152 = c by omega))) ?_
  refine w_istore_n d_MO_putString_6 (by decide) ?_
  refine w_pl (pl' := [some (.ref 57), some (.long (lN (a * 2 ^ 42 + b * 2 ^ 21 + c))), none, some (.int (nI c))]) rfl ?_
  refine w_aload_n d_MO_putString_7 rfl rfl ?_
  refine w_bipush (v := nI 123) d_MO_putString_8 (by decide) ?_
  refine w_callV (as := [.int (nI 123)]) (st := []) d_MO_putString_10 yM_MO_put l_MO_208 vM_MO_put hx0 rfl rfl rfl rfl (m_MO_put hw) (by decide) (by decide) (by decide) (by decide) (Nat.le_of_ble_eq_true rfl) ?_
  rintro _ g1 ⟨rfl, w1, o1⟩
  refine w_eq (st' := []) rfl ?_
  have kx1 := w1.1
  refine w_aload_n d_MO_putString_13 rfl rfl ?_
  refine w_lload_n d_MO_putString_14 rfl ?_
  refine w_bipush (v := nI 42) d_MO_putString_15 (by decide) ?_
  refine w_lshr d_MO_putString_17 ?_
  refine w_topl (y := lN ((a * 2 ^ 42 + b * 2 ^ 21 + c) / 2 ^ 42)) (kshr (d := 42) (by decide) (by omega)) ?_
  refine w_l2i d_MO_putString_18 ?_
  refine w_topi (y := nI a) ((lN_i _).trans (congrArg nI (show (a * 2 ^ 42 + b * 2 ^ 21 + c) / 2 ^ 42 = a by omega))) ?_
  refine w_callV (as := [.int (nI a)]) (st := []) d_MO_putString_19 yM_MO_putPoint l_MO_213 vM_MO_putPoint kx1 rfl rfl rfl rfl (m_MO_putPoint w1 (c := a) ha) (by decide) (by decide) (by decide) (by decide) (Nat.le_of_ble_eq_true rfl) ?_
  rintro _ g2 ⟨rfl, w2, o2⟩
  refine w_eq (st' := []) rfl ?_
  have kx2 := w2.1
  refine w_aload_n d_MO_putString_22 rfl rfl ?_
  refine w_lload_n d_MO_putString_23 rfl ?_
  refine w_bipush (v := nI 21) d_MO_putString_24 (by decide) ?_
  refine w_lshr d_MO_putString_26 ?_
  refine w_topl (y := lN ((a * 2 ^ 42 + b * 2 ^ 21 + c) / 2 ^ 21)) (kshr (d := 21) (by decide) (by omega)) ?_
  refine w_ldc2 (v := lN 2097151) d_MO_putString_27 k_MO_211 ?_
  refine w_land d_MO_putString_30 ?_
  refine w_topl (y := lN ((a * 2 ^ 42 + b * 2 ^ 21 + c) / 2 ^ 21 % 2097152)) (kMask (by omega)) ?_
  refine w_l2i d_MO_putString_31 ?_
  refine w_topi (y := nI b) ((lN_i _).trans (congrArg nI (show (a * 2 ^ 42 + b * 2 ^ 21 + c) / 2 ^ 21 % 2097152 = b by omega))) ?_
  refine w_callV (as := [.int (nI b)]) (st := []) d_MO_putString_32 yM_MO_putPoint l_MO_213 vM_MO_putPoint kx2 rfl rfl rfl rfl (m_MO_putPoint w2 (c := b) hb) (by decide) (by decide) (by decide) (by decide) (Nat.le_of_ble_eq_true rfl) ?_
  rintro _ g3 ⟨rfl, w3, o3⟩
  refine w_eq (st' := []) rfl ?_
  have kx3 := w3.1
  refine w_iload_n d_MO_putString_35 rfl ?_
  refine w_if_le (tgt := 46) d_MO_putString_36 rfl (fun c36 => ?_) (fun c36 => ?_)
  · have c36 : c = 0 := Nat.le_zero.mp ((nI_leI (a := c) (b := 0) (by omega) (by decide)).mp c36)
    refine w_aload_n d_MO_putString_46 rfl rfl ?_
    refine w_bipush (v := nI 125) d_MO_putString_47 (by decide) ?_
    refine w_callV (as := [.int (nI 125)]) (st := []) d_MO_putString_49 yM_MO_put l_MO_208 vM_MO_put kx3 rfl rfl rfl rfl (m_MO_put w3) (by decide) (by decide) (by decide) (by decide) (Nat.le_of_ble_eq_true rfl) ?_
    rintro _ g4 ⟨rfl, w4, o4⟩
    refine w_eq (st' := []) rfl ?_
    have kx4 := w4.1
    rw [← hEN]
    refine w_vret d_MO_putString_52 rfl ?_
    unfold sT
    rw [sa, sb, sc]
    refine ⟨rfl, ?_, (((o1.tr o2).tr o3).tr o4)⟩
    first
    | (rw [if_pos c36]; have q := w4; simp only [List.append_assoc, List.nil_append] at q ⊢; exact q)
    | (rw [if_neg c36]; have q := w5; simp only [List.append_assoc] at q ⊢; exact q)
  · have c36 : ¬ c = 0 := fun z => c36 (by rw [z]; decide)
    refine w_aload_n d_MO_putString_39 rfl rfl ?_
    refine w_iload_n d_MO_putString_40 rfl ?_
    refine w_iconst (v := nI 1) d_MO_putString_41 (by decide) ?_
    refine w_isub d_MO_putString_42 ?_
    refine w_topi (y := nI (c - 1)) (pk_sub (by omega)) ?_
    refine w_callV (as := [.int (nI (c - 1))]) (st := []) d_MO_putString_43 yM_MO_putPoint l_MO_213 vM_MO_putPoint kx3 rfl rfl rfl rfl (m_MO_putPoint w3 (c := (c - 1)) (by omega)) (by decide) (by decide) (by decide) (by decide) (Nat.le_of_ble_eq_true rfl) ?_
    rintro _ g4 ⟨rfl, w4, o4⟩
    refine w_eq (st' := []) rfl ?_
    have kx4 := w4.1
    refine w_aload_n d_MO_putString_46 rfl rfl ?_
    refine w_bipush (v := nI 125) d_MO_putString_47 (by decide) ?_
    refine w_callV (as := [.int (nI 125)]) (st := []) d_MO_putString_49 yM_MO_put l_MO_208 vM_MO_put kx4 rfl rfl rfl rfl (m_MO_put w4) (by decide) (by decide) (by decide) (by decide) (Nat.le_of_ble_eq_true rfl) ?_
    rintro _ g5 ⟨rfl, w5, o5⟩
    refine w_eq (st' := []) rfl ?_
    have kx5 := w5.1
    rw [← hEN]
    refine w_vret d_MO_putString_52 rfl ?_
    unfold sT
    rw [sa, sb, sc]
    refine ⟨rfl, ?_, ((((o1.tr o2).tr o3).tr o4).tr o5)⟩
    first
    | (rw [if_pos c36]; have q := w4; simp only [List.append_assoc, List.nil_append] at q ⊢; exact q)
    | (rw [if_neg c36]; have q := w5; simp only [List.append_assoc] at q ⊢; exact q)
set_option maxHeartbeats 4000000 in
set_option maxRecDepth 100000 in
theorem m_MO_printG {h : wH} {t : List Nat} {EE SS : Nat → List Nat} (hm : hMO h t EE SS) (hk : mOk t EE SS) {r : Nat} {S : List Nat} (hr : r < 3) (hS : sR S (SS r)) : PM X M_MO_print 3 0 0 [.ref 57, .int (nI r)] h (fun z h' => z = some (.int (if (pT (EE r) S).length ≤ 60 then nI (pT (EE r) S).length else -1)) ∧ hMO h' (if (pT (EE r) S).length ≤ 60 then pT (EE r) S else t) EE SS ∧ wOff h h' 57 11) := by
  have hm0 := hm; obtain ⟨⟨ap, gd, dp, wr, fi, hx⟩, htx, hE, hA⟩ := hm
  obtain ⟨ef, cf, sf, nf, ha, hb, hc, hd, hs⟩ := id hE
  obtain ⟨tf, tp, t60, thf⟩ := id htx
  obtain ⟨⟨f63, h63⟩, ⟨f64, h64⟩, ⟨f65, h65⟩, ⟨f66, h66⟩, ⟨f67, h67⟩⟩ := id hA
  obtain ⟨s1, s2, s3, s4, s5, s6⟩ := hs r (by omega)
  obtain ⟨r1, r2, r3, r4⟩ := hk.2.1 r hr
  have e31 : ∀ y ∈ EE r, y < 2 ^ 31 := fun y hy => by have := r1.2 y hy; omega
  have hSl := sR_len hS
  have hmk : ∀ {h3 : wH} {sz9 : List Nat} {o : List Nat}, wO2 h h3 → hW h3 (nI t.length) ap gd dp o → hMO h3 t EE SS := fun {h3 _ o} k4 k3 => ⟨⟨_, _, _, _, _, k3.1⟩, ⟨tf, (k4 _ (by omega) (by omega)).trans tp, t60, thf⟩, ⟨ef, cf, sf, nf, (k4 _ (by omega) (by omega)).trans ha, (k4 _ (by omega) (by omega)).trans hb, (k4 _ (by omega) (by omega)).trans hc, (k4 _ (by omega) (by omega)).trans hd, hs⟩, ⟨f63, (k4 _ (by omega) (by omega)).trans h63⟩, ⟨f64, (k4 _ (by omega) (by omega)).trans h64⟩, ⟨f65, (k4 _ (by omega) (by omega)).trans h65⟩, ⟨_, k3.2.choose_spec.1⟩, ⟨f67, (k4 _ (by omega) (by omega)).trans h67⟩⟩
  obtain ⟨P, hP⟩ : ∃ P, P = pT (EE r) S := ⟨_, rfl⟩
  rw [← hP]
  refine PM.at (pl := [some (.ref 57), some (.int (nI r)), none, none, none, none, none, none, none, none]) rfl rfl (by simp [wle, wen]) ?_
  generalize hEN : wEm X 0 0 _ = EN
  have LC : ∀ (of6 : Nat → Int32) (n : Nat) (i : Nat) (g8 : Nat → Int32) (h3 : wH), (P.length - i < n) → (i ≤ P.length) → (P.length ≤ 60) → (h3[57]? = some (.inr (7, [.ref 58, .int (nI P.length), .ref 59, .ref 60, .ref 61, .ref 62, .int (ap), .int (gd), .int (dp), .ref 63, .ref 64, .ref 65, .ref 66, .int (nI P.length), .int (nI 1), .ref 67]))) → (h3[58]? = some (.inl (0, 60, .inl g8))) → (∀ j x, j < i → P[j]? = some x → g8 j = nI x) → (h3[66]? = some (.inl (0, 60, .inl of6))) → (∀ j x, P[j]? = some x → of6 j = nI x) → (∀ j, j ≠ 57 → j ≠ 58 → j ≠ 66 → h3[j]? = h[j]?) → WP X M_MO_print (wR 3 0 0) 0 EN 0 0 229 [some (.ref 57), some (.int (nI r)), none, none, some (.int (nI i)), none, none, none, none, none] [] h3 := by
    intro of6 n
    induction n with
    | zero => intro i g8 h3 k1 k2 k5 k3 m1 m2 m3 m4 k4; omega
    | succ n ih =>
      intro i g8 h3 k1 k2 k5 k3 m1 m2 m3 m4 k4
      refine w_iload d_MO_print_229 rfl ?_
      refine w_aload_n d_MO_print_231 rfl rfl ?_
      refine w_get d_MO_print_232 f_MO_205 k3 rfl ?_
      refine w_icmp_ge (tgt := 258) d_MO_print_235 rfl (fun c235 => ?_) (fun c235 => ?_)
      · have c235 := (nI_leI (a := P.length) (b := i) (by omega) (by omega)).mp c235
        refine w_aload_n d_MO_print_258 rfl rfl ?_
        refine w_get d_MO_print_259 f_MO_43 k3 rfl ?_
        rw [← hEN]
        refine w_iret d_MO_print_262 rfl ?_
        rw [if_pos k5, if_pos k5]
        refine ⟨rfl, ⟨⟨_, _, _, _, _, k3⟩, ⟨g8, m1, k5, fun j x hx9 => m2 j x (by have := (List.getElem?_eq_some_iff.mp hx9).1; omega) hx9⟩, ⟨ef, cf, sf, nf, (k4 _ (by omega) (by omega) (by omega)).trans ha, (k4 _ (by omega) (by omega) (by omega)).trans hb, (k4 _ (by omega) (by omega) (by omega)).trans hc, (k4 _ (by omega) (by omega) (by omega)).trans hd, hs⟩, ⟨f63, (k4 _ (by omega) (by omega) (by omega)).trans h63⟩, ⟨f64, (k4 _ (by omega) (by omega) (by omega)).trans h64⟩, ⟨f65, (k4 _ (by omega) (by omega) (by omega)).trans h65⟩, ⟨_, m3⟩, ⟨f67, (k4 _ (by omega) (by omega) (by omega)).trans h67⟩⟩, fun j hj => k4 j (by omega) (by omega) (by omega)⟩
      · have c235 : i < P.length := Nat.not_le.mp (fun z => c235 ((nI_leI (a := P.length) (b := i) (by omega) (by omega)).mpr z))
        obtain ⟨y, hy⟩ := t_at c235
        refine w_aload_n d_MO_print_238 rfl rfl ?_
        refine w_get d_MO_print_239 f_MO_7 k3 rfl ?_
        refine w_iload d_MO_print_242 rfl ?_
        refine w_aload_n d_MO_print_244 rfl rfl ?_
        refine w_get d_MO_print_245 f_MO_36 k3 rfl ?_
        refine w_iload d_MO_print_248 rfl ?_
        refine w_iald d_MO_print_250 m3 (vp_in_nI (by omega) (by decide)) ?_
        refine w_topi (y := nI y) (by rw [nI_clamp (by omega)]; exact m4 _ _ hy) ?_
        refine w_iast d_MO_print_251 m1 (vp_in_nI (by omega) (by decide)) ?_
        refine w_nm (fun h1 e1 => ?_)
        have k3_1 := wS_ne e1 (by omega) k3
        have m1_1 := wS_eq e1 m1
        have m3_1 := wS_ne e1 (by omega) m3
        refine w_iinc (v := nI (i + 1)) d_MO_print_252 rfl (nI_1 _) (by decide) ?_
        refine w_pl (pl' := [some (.ref 57), some (.int (nI r)), none, none, some (.int (nI (i + 1))), none, none, none, none, none]) rfl ?_
        refine w_goto (tgt := 229) d_MO_print_255 rfl ?_
        refine ih (i + 1) _ h1 (by omega) (by omega) k5 k3_1 m1_1 (fun j x hj hx9 => ?_) m3_1 m4 (fun j h1 h2 h3 => by rw [wS_off e1 (by omega), k4 j h1 h2 h3])
        rw [nI_clamp (by omega)]
        by_cases hji : j = i
        · subst hji; rw [upd_eq]; rw [hx9] at hy; cases hy; rfl
        · rw [upd_ne hji]; exact m2 j x (by omega) hx9
  have END : ∀ (o : List Nat) (h3 : wH), (hW h3 (nI t.length) ap gd dp o) → (wO2 h h3) → (o ++ [93] = P) → WP X M_MO_print (wR 3 0 0) 0 EN 0 0 203 [some (.ref 57), some (.int (nI r)), none, none, none, none, none, none, none, none] [] h3 := by
    intro o h3 k3 k4 k5
    have hx3 := k3.1
    have ha3 := (k4 59 (by omega) (by omega)).trans ha
    have hb3 := (k4 60 (by omega) (by omega)).trans hb
    have hc3 := (k4 61 (by omega) (by omega)).trans hc
    have hd3 := (k4 62 (by omega) (by omega)).trans hd
    refine w_aload_n d_MO_print_203 rfl rfl ?_
    refine w_bipush (v := nI 93) d_MO_print_204 (by decide) ?_
    refine w_callV (as := [.int (nI 93)]) (st := []) d_MO_print_206 yM_MO_put l_MO_208 vM_MO_put hx3 rfl rfl rfl rfl (m_MO_put k3) (by decide) (by decide) (by decide) (by decide) (Nat.le_of_ble_eq_true rfl) ?_
    rintro _ g1 ⟨rfl, w1, o1⟩
    refine w_eq (st' := []) rfl ?_
    rw [k5] at w1
    obtain ⟨kx1, qf, q66, qh⟩ := w1
    have w1 : hW g1 (nI t.length) ap gd dp P := ⟨kx1, qf, q66, qh⟩
    refine w_aload_n d_MO_print_209 rfl rfl ?_
    refine w_get d_MO_print_210 f_MO_202 kx1 rfl ?_
    refine w_if_ne (tgt := 218) d_MO_print_213 rfl (fun c213 => ?_) (fun c213 => ?_)
    · have c213 := of_decide_eq_true (bI_t c213)
      have e9 : P.take 60 = P := List.take_of_length_le c213
      rw [e9, decide_eq_true c213] at kx1
      rw [e9] at qh
      have tp1 := ((k4.tr o1) 58 (by omega) (by omega)).trans tp
      refine w_aload_n d_MO_print_218 rfl rfl ?_
      refine w_aload_n d_MO_print_219 rfl rfl ?_
      refine w_get d_MO_print_220 f_MO_205 kx1 rfl ?_
      refine w_put d_MO_print_223 f_MO_43 rfl kx1 rfl rfl rfl ?_
      refine w_nm (fun h2 e2 => ?_)
      have kx1_2 := wS_eq e2 kx1
      have q66_2 := wS_ne e2 (by omega) q66
      have tp1_2 := wS_ne e2 (by omega) tp1
      refine w_iconst (v := nI 0) d_MO_print_226 (by decide) ?_
      refine w_istore d_MO_print_227 (by decide) ?_
      refine w_pl (pl' := [some (.ref 57), some (.int (nI r)), none, none, some (.int (nI 0)), none, none, none, none, none]) rfl ?_
      exact LC qf (P.length + 1) 0 tf h2 (by omega) (Nat.zero_le _) c213 kx1_2 tp1_2 (fun j x hj => by omega) q66_2 qh (fun j h1 h2 h3 => by rw [wS_off e2 (by omega), (k4.tr o1) j h1 h3])
    · have c213 := of_decide_eq_false (bI_f c213)
      refine w_iconst (v := -1) d_MO_print_216 (by decide) ?_
      rw [← hEN]
      refine w_iret d_MO_print_217 rfl ?_
      rw [if_neg c213, if_neg c213]
      exact ⟨rfl, hmk (sz9 := []) (k4.tr o1) w1, fun j hj => (k4.tr o1) j (by omega) (by omega)⟩
  have LI : ∀ (n : Nat) (i n9 lo : Nat) (dn : Int64) (o : List Nat) (h3 : wH), ((SS r).length - i < n) → (i ≤ (SS r).length) → (n9 < S.length) → (((n9 = 0 ∧ dn = -1 ∧ lo = 0) ∨ (∃ y0, 1 ≤ n9 ∧ S[n9 - 1]? = some y0 ∧ dn = lN (y0 - 4398048608256) ∧ lo = y0 - 4398048608256 + 1))) → (hW h3 (nI t.length) ap gd dp o) → (wO2 h h3) → (∀ (h4 : wH) (y : Nat), S[n9]? = some y → hW h4 (nI t.length) ap gd dp (o ++ sT y) → wO2 h h4 → WP X M_MO_print (wR 3 0 0) 0 EN 0 0 114 [some (.ref 57), some (.int (nI r)), some (.long (lN (y - 4398048608256))), none, some (.int (nI (n9 + 1))), none, none, none, none, none] [] h4) → WP X M_MO_print (wR 3 0 0) 0 EN 0 0 133 [some (.ref 57), some (.int (nI r)), some (.long (dn)), none, some (.int (nI n9)), some (.long (lN (mn lo (((SS r).take i).map (fun s => s - 4398048608256)) 9223372036854775807))), none, some (.int (nI i)), none, none] [] h3 := by
    intro n
    induction n with
    | zero => intro i n9 lo dn o h3 k1 k2 k7 k8 k3 k4 k6; omega
    | succ n ih =>
      intro i n9 lo dn o h3 k1 k2 k7 k8 k3 k4 k6
      have hx3 := k3.1
      have ha3 := (k4 59 (by omega) (by omega)).trans ha
      have hb3 := (k4 60 (by omega) (by omega)).trans hb
      have hc3 := (k4 61 (by omega) (by omega)).trans hc
      have hd3 := (k4 62 (by omega) (by omega)).trans hd
      refine w_iload d_MO_print_133 rfl ?_
      refine w_aload_n d_MO_print_135 rfl rfl ?_
      refine w_get d_MO_print_136 f_MO_23 hx3 rfl ?_
      refine w_iload_n d_MO_print_139 rfl ?_
      refine w_iald d_MO_print_140 hd3 (vp_in_nI (by omega) (by decide)) ?_
      refine w_topi (y := nI (SS r).length) (by rw [nI_clamp (by omega)]; exact s2) ?_
      refine w_icmp_ge (tgt := 188) d_MO_print_141 rfl (fun c141 => ?_) (fun c141 => ?_)
      · have c141 := (nI_leI (a := (SS r).length) (b := i) (by omega) (by omega)).mp c141
        obtain ⟨y9, hy9⟩ := t_at k7
        have hy9k := r3 y9 ((hS.2.2 y9).mp (List.mem_of_getElem? hy9))
        obtain ⟨a9, b9, c9, ya, yb, yc, ye⟩ := id hy9k
        have hmin : mn lo (((SS r).take i).map (fun s => s - 4398048608256)) 9223372036854775807 = y9 - 4398048608256 := by
          rw [List.take_of_length_le c141]
          rcases k8 with ⟨q1, q2, q3⟩ | ⟨y0, q1, q2, q3, q4⟩
          · exact mn_min hS r3 hy9 (by omega) (fun i2 z hi2 hz => by omega)
          · have hlt := eAsc_lt hS.1 (show n9 - 1 < n9 by omega) q2 hy9
            have hk0 := sOk_k0 (r3 y0 ((hS.2.2 y0).mp (List.mem_of_getElem? q2)))
            refine mn_min hS r3 hy9 (by omega) (fun i2 z hi2 hz => ?_)
            by_cases he : i2 = n9 - 1
            · subst he; rw [hz] at q2; cases q2; omega
            · have := eAsc_lt hS.1 (show i2 < n9 - 1 by omega) hz q2; omega
        rw [hmin]
        refine w_aload_n d_MO_print_188 rfl rfl ?_
        refine w_lload d_MO_print_189 rfl ?_
        have ps := m_MO_putString (X := X) k3 ya yb yc
        rw [← ye] at ps
        refine w_callV (as := [.long (lN (y9 - 4398048608256))]) (st := []) d_MO_print_191 yM_MO_putString l_MO_220 vM_MO_putString hx3 rfl rfl rfl rfl (ps) (by decide) (by decide) (by decide) (by decide) (Nat.le_of_ble_eq_true rfl) ?_
        rintro _ g1 ⟨rfl, w1, o1⟩
        refine w_eq (st' := []) rfl ?_
        refine w_lload d_MO_print_194 rfl ?_
        refine w_lstore_n d_MO_print_196 (by decide) ?_
        refine w_pl (pl' := [some (.ref 57), some (.int (nI r)), some (.long (lN (y9 - 4398048608256))), none, some (.int (nI n9)), some (.long (lN (y9 - 4398048608256))), none, some (.int (nI i)), none, none]) rfl ?_
        refine w_iinc (v := nI (n9 + 1)) d_MO_print_197 rfl (nI_1 _) (by decide) ?_
        refine w_pl (pl' := [some (.ref 57), some (.int (nI r)), some (.long (lN (y9 - 4398048608256))), none, some (.int (nI (n9 + 1))), some (.long (lN (y9 - 4398048608256))), none, some (.int (nI i)), none, none]) rfl ?_
        refine w_goto (tgt := 114) d_MO_print_200 rfl ?_
        refine w_le (pl' := [some (.ref 57), some (.int (nI r)), some (.long (lN (y9 - 4398048608256))), none, some (.int (nI (n9 + 1))), none, none, none, none, none]) ⟨rfl, rfl, rfl, rfl, trivial⟩ ?_
        exact k6 g1 y9 hy9 w1 (k4.tr o1)
      · have c141 : i < (SS r).length := Nat.not_le.mp (fun z => c141 ((nI_leI (a := (SS r).length) (b := i) (by omega) (by omega)).mpr z))
        obtain ⟨y, hy⟩ := t_at c141
        have hyk := sOk_lt (r3 y (List.mem_of_getElem? hy))
        have hy0 := sOk_k0 (r3 y (List.mem_of_getElem? hy))
        have hsn : mn lo (((SS r).take (i + 1)).map (fun s => s - 4398048608256)) 9223372036854775807 = if lo ≤ y - 4398048608256 ∧ y - 4398048608256 < mn lo (((SS r).take i).map (fun s => s - 4398048608256)) 9223372036854775807 then y - 4398048608256 else mn lo (((SS r).take i).map (fun s => s - 4398048608256)) 9223372036854775807 := by
          rw [eTake_succ hy, List.map_append, mn_append]; rfl
        have hmm := (mn_spec lo (((SS r).take i).map (fun s => s - 4398048608256)) 9223372036854775807).1
        have hcmp : lN (y - 4398048608256) ≤ dn ↔ ¬ lo ≤ y - 4398048608256 := by
          rcases k8 with ⟨q1, q2, q3⟩ | ⟨y0, q1, q2, q3, q4⟩
          · rw [q2, q3]; exact ⟨fun z => absurd z (m1_nle (by omega)), fun z => by omega⟩
          · have hk1 := sOk_lt (r3 y0 ((hS.2.2 y0).mp (List.mem_of_getElem? q2)))
            rw [q3, q4, pk_lLE (by omega) (by omega)]; omega
        refine w_aload_n d_MO_print_144 rfl rfl ?_
        refine w_get d_MO_print_145 f_MO_19 hx3 rfl ?_
        refine w_bipush (v := nI 20) d_MO_print_148 (by decide) ?_
        refine w_iload_n d_MO_print_150 rfl ?_
        refine w_imul d_MO_print_151 ?_
        refine w_topi (y := nI (20 * r)) (pk_mul 20 r) ?_
        refine w_iload d_MO_print_152 rfl ?_
        refine w_iadd d_MO_print_154 ?_
        refine w_topi (y := nI (20 * r + i)) (nI_add _ _) ?_
        refine w_lald d_MO_print_155 hc3 (vp_in_nI (by omega) (by decide)) ?_
        refine w_topl (y := lN (y - 4398048608256)) (by rw [nI_clamp (by omega)]; exact s6 _ _ hy) ?_
        refine w_lstore d_MO_print_156 (by decide) ?_
        refine w_pl (pl' := [some (.ref 57), some (.int (nI r)), some (.long (dn)), none, some (.int (nI n9)), some (.long (lN (mn lo (((SS r).take i).map (fun s => s - 4398048608256)) 9223372036854775807))), none, some (.int (nI i)), some (.long (lN (y - 4398048608256))), none]) rfl ?_
        refine w_lload d_MO_print_158 rfl ?_
        refine w_lload_n d_MO_print_160 rfl ?_
        refine w_lcmp d_MO_print_161 ?_
        suffices J180 : WP X M_MO_print (wR 3 0 0) 0 EN 0 0 180 [some (.ref 57), some (.int (nI r)), some (.long (dn)), none, some (.int (nI n9)), some (.long (lN (mn lo (((SS r).take i).map (fun s => s - 4398048608256)) 9223372036854775807))), none, some (.int (nI i)), some (.long (lN (y - 4398048608256))), none] [.long (lN (mn lo (((SS r).take (i + 1)).map (fun s => s - 4398048608256)) 9223372036854775807))] h3 by
          refine w_if_le (tgt := 178) d_MO_print_162 rfl (fun c162 => ?_) (fun c162 => ?_)
          · have c162 := hcmp.mp ((lg_cmp_le _ _).mp c162)
            rw [if_neg (fun z => c162 z.1)] at hsn
            refine w_lload d_MO_print_178 rfl ?_
            rw [hsn] at J180; exact J180
          · have c162 : lo ≤ y - 4398048608256 := Decidable.byContradiction fun z => c162 ((lg_cmp_le _ _).mpr (hcmp.mpr z))
            refine w_lload d_MO_print_165 rfl ?_
            refine w_lload d_MO_print_167 rfl ?_
            refine w_lcmp d_MO_print_169 ?_
            refine w_if_ge (tgt := 178) d_MO_print_170 rfl (fun c170 => ?_) (fun c170 => ?_)
            · have c170 := (pk_lLE (by omega) (by omega)).mp ((lg_cmp_ge _ _).mp c170)
              rw [if_neg (fun z => by omega)] at hsn
              refine w_lload d_MO_print_178 rfl ?_
              rw [hsn] at J180; exact J180
            · have c170 : y - 4398048608256 < mn lo (((SS r).take i).map (fun s => s - 4398048608256)) 9223372036854775807 := Nat.not_le.mp (fun z => c170 ((lg_cmp_ge _ _).mpr ((pk_lLE (by omega) (by omega)).mpr z)))
              rw [if_pos ⟨c162, c170⟩] at hsn
              refine w_lload d_MO_print_173 rfl ?_
              refine w_goto (tgt := 180) d_MO_print_175 rfl ?_
              rw [hsn] at J180; exact J180
        refine w_lstore d_MO_print_180 (by decide) ?_
        refine w_pl (pl' := [some (.ref 57), some (.int (nI r)), some (.long (dn)), none, some (.int (nI n9)), some (.long (lN (mn lo (((SS r).take (i + 1)).map (fun s => s - 4398048608256)) 9223372036854775807))), none, some (.int (nI i)), some (.long (lN (y - 4398048608256))), none]) rfl ?_
        refine w_iinc (v := nI (i + 1)) d_MO_print_182 rfl (nI_1 _) (by decide) ?_
        refine w_pl (pl' := [some (.ref 57), some (.int (nI r)), some (.long (dn)), none, some (.int (nI n9)), some (.long (lN (mn lo (((SS r).take (i + 1)).map (fun s => s - 4398048608256)) 9223372036854775807))), none, some (.int (nI (i + 1))), some (.long (lN (y - 4398048608256))), none]) rfl ?_
        refine w_goto (tgt := 133) d_MO_print_185 rfl ?_
        refine w_le (pl' := [some (.ref 57), some (.int (nI r)), some (.long (dn)), none, some (.int (nI n9)), some (.long (lN (mn lo (((SS r).take (i + 1)).map (fun s => s - 4398048608256)) 9223372036854775807))), none, some (.int (nI (i + 1))), none, none]) ⟨rfl, rfl, rfl, rfl, rfl, rfl, trivial⟩ ?_
        exact ih (i + 1) n9 lo dn o h3 (by clear k8; omega) (by clear k8; omega) k7 k8 k3 k4 k6
  have LO : ∀ (n : Nat) (n9 lo : Nat) (dn : Int64) (o : List Nat) (h3 : wH), (S.length - n9 < n) → (n9 ≤ S.length) → (((n9 = 0 ∧ dn = -1 ∧ lo = 0) ∨ (∃ y0, 1 ≤ n9 ∧ S[n9 - 1]? = some y0 ∧ dn = lN (y0 - 4398048608256) ∧ lo = y0 - 4398048608256 + 1))) → (hW h3 (nI t.length) ap gd dp o) → (wO2 h h3) → (o ++ ((S.drop n9).flatMap sT ++ [93]) = P) → WP X M_MO_print (wR 3 0 0) 0 EN 0 0 114 [some (.ref 57), some (.int (nI r)), some (.long (dn)), none, some (.int (nI n9)), none, none, none, none, none] [] h3 := by
    intro n
    induction n with
    | zero => intro n9 lo dn o h3 k1 k2 k8 k3 k4 k5; omega
    | succ n ih =>
      intro n9 lo dn o h3 k1 k2 k8 k3 k4 k5
      have hx3 := k3.1
      have ha3 := (k4 59 (by omega) (by omega)).trans ha
      have hb3 := (k4 60 (by omega) (by omega)).trans hb
      have hc3 := (k4 61 (by omega) (by omega)).trans hc
      have hd3 := (k4 62 (by omega) (by omega)).trans hd
      refine w_iload d_MO_print_114 rfl ?_
      refine w_aload_n d_MO_print_116 rfl rfl ?_
      refine w_get d_MO_print_117 f_MO_23 hx3 rfl ?_
      refine w_iload_n d_MO_print_120 rfl ?_
      refine w_iald d_MO_print_121 hd3 (vp_in_nI (by omega) (by decide)) ?_
      refine w_topi (y := nI (SS r).length) (by rw [nI_clamp (by omega)]; exact s2) ?_
      refine w_icmp_ge (tgt := 203) d_MO_print_122 rfl (fun c122 => ?_) (fun c122 => ?_)
      · have c122 := (nI_leI (a := (SS r).length) (b := n9) (by omega) (by omega)).mp c122
        refine w_le (pl' := [some (.ref 57), some (.int (nI r)), none, none, none, none, none, none, none, none]) ⟨rfl, rfl, trivial⟩ ?_
        refine END o h3 k3 k4 ?_
        rw [List.drop_of_length_le (by omega)] at k5; exact k5
      · have c122 : n9 < (SS r).length := Nat.not_le.mp (fun z => c122 ((nI_leI (a := (SS r).length) (b := n9) (by omega) (by omega)).mpr z))
        refine w_ldc2 (v := lN 9223372036854775807) d_MO_print_125 k_MO_218 ?_
        refine w_lstore d_MO_print_128 (by decide) ?_
        refine w_pl (pl' := [some (.ref 57), some (.int (nI r)), some (.long (dn)), none, some (.int (nI n9)), some (.long (lN 9223372036854775807)), none, none, none, none]) rfl ?_
        refine w_iconst (v := nI 0) d_MO_print_130 (by decide) ?_
        refine w_istore d_MO_print_131 (by decide) ?_
        refine w_pl (pl' := [some (.ref 57), some (.int (nI r)), some (.long (dn)), none, some (.int (nI n9)), some (.long (lN 9223372036854775807)), none, some (.int (nI 0)), none, none]) rfl ?_
        refine LI ((SS r).length + 1) 0 n9 lo dn o h3 (by omega) (Nat.zero_le _) (by omega) k8 k3 k4 (fun h4 y hy q1 q2 => ?_)
        refine ih (n9 + 1) (y - 4398048608256 + 1) _ (o ++ sT y) h4 (by omega) (by omega) (Or.inr ⟨y, by omega, by rw [show n9 + 1 - 1 = n9 by omega]; exact hy, rfl, rfl⟩) q1 q2 ?_
        rw [← k5, List.append_assoc]
        congr 1
        rw [← List.append_assoc]
        congr 1
        obtain ⟨h9, h10⟩ := List.getElem?_eq_some_iff.mp hy
        rw [List.drop_eq_getElem_cons h9, h10, List.flatMap_cons]
  have LE : ∀ (n : Nat) (i : Nat) (o : List Nat) (h3 : wH), ((EE r).length - i < n) → (i ≤ (EE r).length + 1) → (hW h3 (nI t.length) ap gd dp o) → (wO2 h h3) → (o ++ (eT ((EE r).drop i) ++ (S.flatMap sT ++ [93])) = P) → WP X M_MO_print (wR 3 0 0) 0 EN 0 0 27 [some (.ref 57), some (.int (nI r)), some (.int (nI i)), none, none, none, none, none, none, none] [] h3 := by
    intro n
    induction n with
    | zero => intro i o h3 k1 k2 k3 k4 k5; omega
    | succ n ih =>
      intro i o h3 k1 k2 k3 k4 k5
      have hx3 := k3.1
      have ha3 := (k4 59 (by omega) (by omega)).trans ha
      have hb3 := (k4 60 (by omega) (by omega)).trans hb
      have hc3 := (k4 61 (by omega) (by omega)).trans hc
      have hd3 := (k4 62 (by omega) (by omega)).trans hd
      refine w_iload_n d_MO_print_27 rfl ?_
      refine w_iconst (v := nI 1) d_MO_print_28 (by decide) ?_
      refine w_iadd d_MO_print_29 ?_
      refine w_topi (y := nI (i + 1)) (nI_add _ _) ?_
      refine w_aload_n d_MO_print_30 rfl rfl ?_
      refine w_get d_MO_print_31 f_MO_16 hx3 rfl ?_
      refine w_iload_n d_MO_print_34 rfl ?_
      refine w_iald d_MO_print_35 hb3 (vp_in_nI (by omega) (by decide)) ?_
      refine w_topi (y := nI (EE r).length) (by rw [nI_clamp (by omega)]; exact s1) ?_
      refine w_icmp_ge (tgt := 107) d_MO_print_36 rfl (fun c36 => ?_) (fun c36 => ?_)
      · have c36 := (nI_leI (a := (EE r).length) (b := i + 1) (by omega) (by omega)).mp c36
        refine w_ldc2 (v := (-1)) d_MO_print_107 k_MO_216 ?_
        refine w_lstore_n d_MO_print_110 (by decide) ?_
        refine w_iconst (v := nI 0) d_MO_print_111 (by decide) ?_
        refine w_istore d_MO_print_112 (by decide) ?_
        refine w_le (pl' := [some (.ref 57), some (.int (nI r)), some (.long ((-1))), none, some (.int (nI 0)), none, none, none, none, none]) ⟨rfl, rfl, rfl, rfl, trivial⟩ ?_
        refine LO (S.length + 1) 0 0 (-1) o h3 (by omega) (Nat.zero_le _) (Or.inl ⟨rfl, rfl, rfl⟩) k3 k4 ?_
        rw [eT_short (by rw [List.length_drop]; omega), List.nil_append] at k5
        rw [List.drop_zero]; exact k5
      · have c36 : i + 1 < (EE r).length := Nat.not_le.mp (fun z => c36 ((nI_leI (a := (EE r).length) (b := i + 1) (by omega) (by omega)).mpr z))
        obtain ⟨a, b, hab, ha1, hb1, hdr⟩ := eDrop2 r1.1 c36
        have hbl := r1.2 b (List.mem_of_getElem? hb1)
        rw [hdr, eT_2] at k5
        refine w_aload_n d_MO_print_39 rfl rfl ?_
        refine w_get d_MO_print_40 f_MO_13 hx3 rfl ?_
        refine w_sipush (v := nI 420) d_MO_print_43 (by decide) ?_
        refine w_iload_n d_MO_print_46 rfl ?_
        refine w_imul d_MO_print_47 ?_
        refine w_topi (y := nI (420 * r)) (pk_mul 420 r) ?_
        refine w_iload_n d_MO_print_48 rfl ?_
        refine w_iadd d_MO_print_49 ?_
        refine w_topi (y := nI (420 * r + i)) (nI_add _ _) ?_
        refine w_iald d_MO_print_50 ha3 (vp_in_nI (by omega) (by decide)) ?_
        refine w_topi (y := nI a) (by rw [nI_clamp (by omega)]; exact s5 _ _ ha1) ?_
        refine w_istore_n d_MO_print_51 (by decide) ?_
        refine w_pl (pl' := [some (.ref 57), some (.int (nI r)), some (.int (nI i)), some (.int (nI a)), none, none, none, none, none, none]) rfl ?_
        refine w_aload_n d_MO_print_52 rfl rfl ?_
        refine w_get d_MO_print_53 f_MO_13 hx3 rfl ?_
        refine w_sipush (v := nI 420) d_MO_print_56 (by decide) ?_
        refine w_iload_n d_MO_print_59 rfl ?_
        refine w_imul d_MO_print_60 ?_
        refine w_topi (y := nI (420 * r)) (pk_mul 420 r) ?_
        refine w_iload_n d_MO_print_61 rfl ?_
        refine w_iadd d_MO_print_62 ?_
        refine w_topi (y := nI (420 * r + i)) (nI_add _ _) ?_
        refine w_iconst (v := nI 1) d_MO_print_63 (by decide) ?_
        refine w_iadd d_MO_print_64 ?_
        refine w_topi (y := nI (420 * r + i + 1)) (nI_add _ _) ?_
        refine w_iald d_MO_print_65 ha3 (vp_in_nI (by omega) (by decide)) ?_
        refine w_topi (y := nI b) (by rw [nI_clamp (by omega)]; exact s5 _ _ hb1) ?_
        refine w_iconst (v := nI 1) d_MO_print_66 (by decide) ?_
        refine w_isub d_MO_print_67 ?_
        refine w_topi (y := nI (b - 1)) (pk_sub (by omega)) ?_
        refine w_istore d_MO_print_68 (by decide) ?_
        refine w_pl (pl' := [some (.ref 57), some (.int (nI r)), some (.int (nI i)), some (.int (nI a)), some (.int (nI (b - 1))), none, none, none, none, none]) rfl ?_
        refine w_aload_n d_MO_print_70 rfl rfl ?_
        refine w_iload_n d_MO_print_71 rfl ?_
        refine w_callV (as := [.int (nI a)]) (st := []) d_MO_print_72 yM_MO_putPoint l_MO_213 vM_MO_putPoint hx3 rfl rfl rfl rfl (m_MO_putPoint k3 (c := a) (by omega)) (by decide) (by decide) (by decide) (by decide) (Nat.le_of_ble_eq_true rfl) ?_
        rintro _ g1 ⟨rfl, w1, o1⟩
        refine w_eq (st' := []) rfl ?_
        have kx1 := w1.1
        refine w_iload d_MO_print_75 rfl ?_
        refine w_iload_n d_MO_print_77 rfl ?_
        refine w_iconst (v := nI 1) d_MO_print_78 (by decide) ?_
        refine w_iadd d_MO_print_79 ?_
        refine w_topi (y := nI (a + 1)) (nI_add _ _) ?_
        refine w_icmp_le (tgt := 89) d_MO_print_80 rfl (fun c80 => ?_) (fun c80 => ?_)
        · have c80 : ¬ a + 1 < b - 1 := Nat.not_lt.mpr ((nI_leI (by omega) (by omega)).mp c80)
          refine w_iload d_MO_print_89 rfl ?_
          refine w_iload_n d_MO_print_91 rfl ?_
          refine w_icmp_le (tgt := 101) d_MO_print_92 rfl (fun c92 => ?_) (fun c92 => ?_)
          · have c92 : b - 1 = a := by have := (nI_leI (a := b - 1) (b := a) (by omega) (by omega)).mp c92; omega
            refine w_iinc (v := nI (i + 2)) d_MO_print_101 rfl (nI_add i 2) (by decide) ?_
            refine w_pl (pl' := [some (.ref 57), some (.int (nI r)), some (.int (nI (i + 2))), some (.int (nI a)), some (.int (nI (b - 1))), none, none, none, none, none]) rfl ?_
            refine w_goto (tgt := 27) d_MO_print_104 rfl ?_
            refine w_le (pl' := [some (.ref 57), some (.int (nI r)), some (.int (nI (i + 2))), none, none, none, none, none, none, none]) ⟨rfl, rfl, rfl, trivial⟩ ?_
            refine ih (i + 2) _ g1 (by omega) (by omega) w1 (k4.tr o1) ?_
            rw [← k5]
            unfold rT
            first
            | (rw [if_pos c92]; simp only [List.append_assoc, List.nil_append]; done)
            | (rw [if_neg c92, if_pos c80]; simp only [List.append_assoc]; done)
            | (rw [if_neg c92, if_neg c80]; simp only [List.append_assoc, List.nil_append]; done)
            | omega
          · have c92 : ¬ b - 1 = a := fun z => c92 (by rw [z]; exact Int32.le_refl _)
            refine w_aload_n d_MO_print_95 rfl rfl ?_
            refine w_iload d_MO_print_96 rfl ?_
            refine w_callV (as := [.int (nI (b - 1))]) (st := []) d_MO_print_98 yM_MO_putPoint l_MO_213 vM_MO_putPoint kx1 rfl rfl rfl rfl (m_MO_putPoint w1 (c := (b - 1)) (by omega)) (by decide) (by decide) (by decide) (by decide) (Nat.le_of_ble_eq_true rfl) ?_
            rintro _ g2 ⟨rfl, w2, o2⟩
            refine w_eq (st' := []) rfl ?_
            have kx2 := w2.1
            refine w_iinc (v := nI (i + 2)) d_MO_print_101 rfl (nI_add i 2) (by decide) ?_
            refine w_pl (pl' := [some (.ref 57), some (.int (nI r)), some (.int (nI (i + 2))), some (.int (nI a)), some (.int (nI (b - 1))), none, none, none, none, none]) rfl ?_
            refine w_goto (tgt := 27) d_MO_print_104 rfl ?_
            refine w_le (pl' := [some (.ref 57), some (.int (nI r)), some (.int (nI (i + 2))), none, none, none, none, none, none, none]) ⟨rfl, rfl, rfl, trivial⟩ ?_
            refine ih (i + 2) _ g2 (by omega) (by omega) w2 (k4.tr (o1.tr o2)) ?_
            rw [← k5]
            unfold rT
            first
            | (rw [if_pos c92]; simp only [List.append_assoc, List.nil_append]; done)
            | (rw [if_neg c92, if_pos c80]; simp only [List.append_assoc]; done)
            | (rw [if_neg c92, if_neg c80]; simp only [List.append_assoc, List.nil_append]; done)
            | omega
        · have c80 : a + 1 < b - 1 := Nat.not_le.mp (fun z => c80 ((nI_leI (by omega) (by omega)).mpr z))
          refine w_aload_n d_MO_print_83 rfl rfl ?_
          refine w_bipush (v := nI 45) d_MO_print_84 (by decide) ?_
          refine w_callV (as := [.int (nI 45)]) (st := []) d_MO_print_86 yM_MO_put l_MO_208 vM_MO_put kx1 rfl rfl rfl rfl (m_MO_put w1) (by decide) (by decide) (by decide) (by decide) (Nat.le_of_ble_eq_true rfl) ?_
          rintro _ g2 ⟨rfl, w2, o2⟩
          refine w_eq (st' := []) rfl ?_
          have kx2 := w2.1
          refine w_iload d_MO_print_89 rfl ?_
          refine w_iload_n d_MO_print_91 rfl ?_
          refine w_icmp_le (tgt := 101) d_MO_print_92 rfl (fun c92 => ?_) (fun c92 => ?_)
          · have c92 : b - 1 = a := by have := (nI_leI (a := b - 1) (b := a) (by omega) (by omega)).mp c92; omega
            refine w_iinc (v := nI (i + 2)) d_MO_print_101 rfl (nI_add i 2) (by decide) ?_
            refine w_pl (pl' := [some (.ref 57), some (.int (nI r)), some (.int (nI (i + 2))), some (.int (nI a)), some (.int (nI (b - 1))), none, none, none, none, none]) rfl ?_
            refine w_goto (tgt := 27) d_MO_print_104 rfl ?_
            refine w_le (pl' := [some (.ref 57), some (.int (nI r)), some (.int (nI (i + 2))), none, none, none, none, none, none, none]) ⟨rfl, rfl, rfl, trivial⟩ ?_
            refine ih (i + 2) _ g2 (by omega) (by omega) w2 (k4.tr (o1.tr o2)) ?_
            rw [← k5]
            unfold rT
            first
            | (rw [if_pos c92]; simp only [List.append_assoc, List.nil_append]; done)
            | (rw [if_neg c92, if_pos c80]; simp only [List.append_assoc]; done)
            | (rw [if_neg c92, if_neg c80]; simp only [List.append_assoc, List.nil_append]; done)
            | omega
          · have c92 : ¬ b - 1 = a := fun z => c92 (by rw [z]; exact Int32.le_refl _)
            refine w_aload_n d_MO_print_95 rfl rfl ?_
            refine w_iload d_MO_print_96 rfl ?_
            refine w_callV (as := [.int (nI (b - 1))]) (st := []) d_MO_print_98 yM_MO_putPoint l_MO_213 vM_MO_putPoint kx2 rfl rfl rfl rfl (m_MO_putPoint w2 (c := (b - 1)) (by omega)) (by decide) (by decide) (by decide) (by decide) (Nat.le_of_ble_eq_true rfl) ?_
            rintro _ g3 ⟨rfl, w3, o3⟩
            refine w_eq (st' := []) rfl ?_
            have kx3 := w3.1
            refine w_iinc (v := nI (i + 2)) d_MO_print_101 rfl (nI_add i 2) (by decide) ?_
            refine w_pl (pl' := [some (.ref 57), some (.int (nI r)), some (.int (nI (i + 2))), some (.int (nI a)), some (.int (nI (b - 1))), none, none, none, none, none]) rfl ?_
            refine w_goto (tgt := 27) d_MO_print_104 rfl ?_
            refine w_le (pl' := [some (.ref 57), some (.int (nI r)), some (.int (nI (i + 2))), none, none, none, none, none, none, none]) ⟨rfl, rfl, rfl, trivial⟩ ?_
            refine ih (i + 2) _ g3 (by omega) (by omega) w3 (k4.tr ((o1.tr o2).tr o3)) ?_
            rw [← k5]
            unfold rT
            first
            | (rw [if_pos c92]; simp only [List.append_assoc, List.nil_append]; done)
            | (rw [if_neg c92, if_pos c80]; simp only [List.append_assoc]; done)
            | (rw [if_neg c92, if_neg c80]; simp only [List.append_assoc, List.nil_append]; done)
            | omega
  refine w_iload_n d_MO_print_0 rfl ?_
  refine w_callS (as := [.int (nI r)]) (st := []) d_MO_print_1 yM_MO_register l_MO_196 sM_MO_register rfl rfl (m_MO_regG (r := r) hr) (by decide) (by decide) (by decide) (by decide) (Nat.le_of_ble_eq_true rfl) ?_
  rintro _ h9_3 ⟨rfl, e9_3⟩
  rw [e9_3]
  refine w_eq (st' := [.int (nI 1)]) rfl ?_
  refine w_if_ne (tgt := 9) d_MO_print_4 rfl (fun _ => ?_) (fun z => absurd z (by decide))
  refine w_aload_n d_MO_print_9 rfl rfl ?_
  refine w_iconst (v := nI 0) d_MO_print_10 (by decide) ?_
  refine w_put d_MO_print_11 f_MO_205 rfl hx rfl rfl rfl ?_
  refine w_nm (fun h4 e4 => ?_)
  have hx_4 := wS_eq e4 hx
  refine w_aload_n d_MO_print_14 rfl rfl ?_
  refine w_iconst (v := nI 1) d_MO_print_15 (by decide) ?_
  refine w_put d_MO_print_16 f_MO_202 rfl hx_4 rfl rfl rfl ?_
  refine w_nm (fun h5 e5 => ?_)
  have hx_5 := wS_eq e5 hx_4
  refine w_aload_n d_MO_print_19 rfl rfl ?_
  refine w_bipush (v := nI 91) d_MO_print_20 (by decide) ?_
  have hw0 : hW h5 (nI t.length) ap gd dp [] := ⟨hx_5, f66, by rw [wS_off e5 (by omega), wS_off e4 (by omega)]; exact h66, fun i x hx9 => by simp at hx9⟩
  have hwo : wO2 h h5 := fun j h1 h2 => by rw [wS_off e5 (by omega), wS_off e4 (by omega)]
  refine w_callV (as := [.int (nI 91)]) (st := []) d_MO_print_22 yM_MO_put l_MO_208 vM_MO_put hx_5 rfl rfl rfl rfl (m_MO_put hw0) (by decide) (by decide) (by decide) (by decide) (Nat.le_of_ble_eq_true rfl) ?_
  rintro _ g1 ⟨rfl, w1, o1⟩
  refine w_eq (st' := []) rfl ?_
  refine w_iconst (v := nI 0) d_MO_print_25 (by decide) ?_
  refine w_istore_n d_MO_print_26 (by decide) ?_
  refine w_pl (pl' := [some (.ref 57), some (.int (nI r)), some (.int (nI 0)), none, none, none, none, none, none, none]) rfl ?_
  exact LE ((EE r).length + 1) 0 ([] ++ [91]) g1 (by omega) (by omega) w1 (hwo.tr o1) (by rw [hP, List.drop_zero]; unfold pT; rfl)
set_option maxHeartbeats 4000000 in
set_option maxRecDepth 100000 in
theorem m_MO_printB {h : wH} {t : List Nat} {EE SS : Nat → List Nat} (hm : hMO h t EE SS) {x : Int32} (hxr : ¬ (0 ≤ x ∧ x < nI 3)) : PM X M_MO_print 3 0 0 [.ref 57, .int (x)] h (fun z h' => z = some (.int (-1)) ∧ h' = h) := by
  have hm0 := hm; obtain ⟨⟨ap, gd, dp, wr, fi, hx⟩, htx, hE, hA⟩ := hm
  refine PM.at (pl := [some (.ref 57), some (.int (x)), none, none, none, none, none, none, none, none]) rfl rfl (by simp [wle, wen]) ?_
  generalize hEN : wEm X 0 0 _ = EN
  refine w_iload_n d_MO_print_0 rfl ?_
  refine w_callS (as := [.int (x)]) (st := []) d_MO_print_1 yM_MO_register l_MO_196 sM_MO_register rfl rfl (m_MO_regB (x := x) hxr) (by decide) (by decide) (by decide) (by decide) (Nat.le_of_ble_eq_true rfl) ?_
  rintro _ h9_1 ⟨rfl, e9_1⟩
  rw [e9_1]
  refine w_eq (st' := [.int (nI 0)]) rfl ?_
  refine w_if_ne (tgt := 9) d_MO_print_4 rfl (fun z => absurd (by decide) z) (fun _ => ?_)
  refine w_iconst (v := -1) d_MO_print_7 (by decide) ?_
  rw [← hEN]
  refine w_iret d_MO_print_8 rfl ?_
  exact ⟨rfl, rfl⟩
end MO8
