/-! the reference's make, copy, join, addRange: written by wip/gen/mo2.py -/
theorem va_up_up {α : Type} (f : Nat → α) (k : Nat) (a b : α) : va_up (va_up f k a) k b = va_up f k b := by
  funext j
  by_cases h : j = k
  · rw [h, va_up_self, va_up_self]
  · rw [va_up_ne _ _ h, va_up_ne _ _ h, va_up_ne _ _ h]
theorem va_up_id {α : Type} (f : Nat → α) (k : Nat) : va_up f k (f k) = f := by
  funext j
  by_cases h : j = k
  · rw [h, va_up_self]
  · rw [va_up_ne _ _ h]
theorem upd_app {f : Nat → Int32} {l : List Nat} {o x : Nat} (h : ∀ i y, l[i]? = some y → f (o + i) = nI y) : ∀ i y, (l ++ [x])[i]? = some y → upd f (o + l.length) (nI x) (o + i) = nI y := by
  intro i y hy
  by_cases hi : i < l.length
  · rw [List.getElem?_append_left hi] at hy
    rw [upd_ne (by omega)]
    exact h i y hy
  · have hlt := (List.getElem?_eq_some_iff.mp hy).1
    rw [List.length_append, List.length_singleton] at hlt
    have hi2 : i = l.length := by omega
    subst hi2
    rw [List.getElem?_append_right (Nat.le_refl _), Nat.sub_self] at hy
    cases hy
    exact upd_eq
theorem mS_push {ef cf nf : Nat → Int32} {sf : Nat → Int64} {EE SS : Nat → List Nat} {t x : Nat} (hs : ∀ j, j < 12 → mS ef cf sf nf j (EE j) (SS j)) (ht : t < 12) (hl : (EE t).length < 420) : ∀ j, j < 12 → mS (upd ef (420 * t + (EE t).length) (nI x)) (upd cf t (nI ((EE t).length + 1))) sf nf j (va_up EE t (EE t ++ [x]) j) (SS j) := by
  intro j hj
  by_cases hjt : j = t
  · subst hjt
    obtain ⟨s1, s2, s3, s4, s5, s6⟩ := hs j hj
    rw [va_up_self]
    exact ⟨by rw [upd_eq, List.length_append]; rfl, s2, by rw [List.length_append, List.length_singleton]; omega, s4, upd_app s5, s6⟩
  · rw [va_up_ne _ _ hjt]
    exact (hs j hj).keep (fun i hi => upd_ne (slE hjt hi hl)) (upd_ne hjt) (fun _ _ => rfl) rfl
/-- the strings that make keeps -/
def mkS (how : Nat) (S T : List Nat) : List Nat := S.filter (fun s => eDec how true (decide (s ∈ T))) ++ T.filter (fun s => !decide (s ∈ S) && eDec how false true)
theorem flt_sn {S : List Nat} {p : Nat → Bool} {i y : Nat} (hy : S[i]? = some y) : (S.take (i + 1)).filter p = (S.take i).filter p ++ (if p y = true then [y] else []) := by
  rw [eTake_succ hy, List.filter_append]
  congr 1
  by_cases h : p y = true
  · rw [if_pos h, List.filter_cons_of_pos h]; rfl
  · rw [if_neg h, List.filter_cons_of_neg h]; rfl
theorem P_const {how : Nat} {L R : List Nat} {x : Nat} (h1 : ¬ x ∈ L) (h2 : ¬ x ∈ R) : eDec how (eMem L x) (eMem R x) = ePrev (fun c => eDec how (eMem L c) (eMem R c)) x := by
  have hm : ∀ E : List Nat, ¬ x ∈ E → eCnt E x = match x with | 0 => 0 | y + 1 => eCnt E y := by
    intro E hE
    cases x with
    | zero => exact eCnt_low (fun e he => Nat.pos_of_ne_zero (fun z => hE (z ▸ he)))
    | succ y =>
      dsimp only
      unfold eCnt
      congr 1
      apply List.filter_congr
      intro e he
      have : e ≠ y + 1 := fun z => hE (z ▸ he)
      exact decide_eq_decide.mpr ⟨fun z => by omega, fun z => by omega⟩
  have hL := hm L h1
  have hR := hm R h2
  unfold eMem
  rw [hL, hR]
  cases x with
  | zero => exact eDec_ff how
  | succ y => rfl
theorem eCh_s (P : Nat → Bool) (n : Nat) : eCh P (n + 1) = if P n = ePrev P n then eCh P n else eCh P n ++ [n] := rfl
theorem eCh_gap {how : Nat} {L R : List Nat} (lo : Nat) : ∀ n, (∀ x, lo ≤ x → x < lo + n → ¬ x ∈ L ∧ ¬ x ∈ R) → eCh (fun c => eDec how (eMem L c) (eMem R c)) (lo + n) = eCh (fun c => eDec how (eMem L c) (eMem R c)) lo ∧ ePrev (fun c => eDec how (eMem L c) (eMem R c)) (lo + n) = ePrev (fun c => eDec how (eMem L c) (eMem R c)) lo
  | 0, _ => ⟨rfl, rfl⟩
  | n + 1, h => by
    have ih := eCh_gap (how := how) lo n (fun x h1 h2 => h x h1 (by omega))
    have hc := P_const (how := how) (h (lo + n) (by omega) (by omega)).1 (h (lo + n) (by omega) (by omega)).2
    constructor
    · rw [show lo + (n + 1) = (lo + n) + 1 from rfl, eCh_s, if_pos hc]
      exact ih.1
    · show eDec how (eMem L (lo + n)) (eMem R (lo + n)) = _
      rw [hc]
      exact ih.2
theorem nx_gap {how : Nat} {L R : List Nat} {lo : Nat} (hlo : lo ≤ 1114113) : lo ≤ nxE L R lo ∧ nxE L R lo ≤ 1114113 ∧ eCh (fun c => eDec how (eMem L c) (eMem R c)) (nxE L R lo) = eCh (fun c => eDec how (eMem L c) (eMem R c)) lo ∧ ePrev (fun c => eDec how (eMem L c) (eMem R c)) (nxE L R lo) = ePrev (fun c => eDec how (eMem L c) (eMem R c)) lo := by
  have a := mn_spec lo L 1114113
  have b := mn_spec lo R (mn lo L 1114113)
  have h1 : lo ≤ nxE L R lo := by
    unfold nxE
    rcases b.2.2 with z | z
    · rw [z]
      rcases a.2.2 with y | y
      · omega
      · exact y.2
    · exact z.2
  have h2 : nxE L R lo ≤ 1114113 := Nat.le_trans b.1 a.1
  have hg := eCh_gap (how := how) (L := L) (R := R) lo (nxE L R lo - lo) (fun x k1 k2 => ⟨fun z => by
    have := a.2.1 x z k1
    have := b.1
    unfold nxE at k2
    omega, fun z => by
    have := b.2.1 x z k1
    unfold nxE at k2
    omega⟩)
  rw [show lo + (nxE L R lo - lo) = nxE L R lo by omega] at hg
  exact ⟨h1, h2, hg⟩
theorem eCh_len {how : Nat} {L R : List Nat} : ∀ n, n ≤ 1114113 → (eCh (fun c => eDec how (eMem L c) (eMem R c)) n).length ≤ L.length + R.length := by
  intro n hn
  have go : ∀ n x, x ∈ eCh (fun c => eDec how (eMem L c) (eMem R c)) n → x ∈ L ∨ x ∈ R := by
    intro n
    induction n with
    | zero => intro x h; cases h
    | succ n ih =>
      intro x h
      unfold eCh at h
      split at h
      · exact ih x h
      · rename_i hne
        rcases List.mem_append.mp h with h | h
        · exact ih x h
        · rw [List.mem_singleton] at h
          subst h
          exact Decidable.byContradiction fun z => hne (P_const (fun y => z (Or.inl y)) (fun y => z (Or.inr y)))
  exact len_sub _ _ _ (eCh_asc _ _) (go n)
theorem hlo_nI {x : Nat} (hx : x < 2 ^ 31) : ∀ e, e < 2 ^ 31 → (nI e ≤ nI x ↔ ¬ x + 1 ≤ e) := fun e he => (nI_leI he hx).trans ⟨fun z => by omega, fun z => by omega⟩
theorem hlo_m1 : ∀ e, e < 2 ^ 31 → (nI e ≤ (-1 : Int32) ↔ ¬ 0 ≤ e) := fun e he => ⟨fun z => absurd (Int32.lt_of_le_of_lt z (by decide : (-1 : Int32) < 0)) (nI_pos he), fun z => absurd (Nat.zero_le e) z⟩
section MO2
variable {X : wX}

set_option maxHeartbeats 4000000 in
set_option maxRecDepth 100000 in
theorem m_MO_keepN2 {h : wH} {sz ap gd dp wr fi : Int32} (hx : h[57]? = some (.inr (7, [.ref 58, .int (sz), .ref 59, .ref 60, .ref 61, .ref 62, .int (ap), .int (gd), .int (dp), .ref 63, .ref 64, .ref 65, .ref 66, .int (wr), .int (fi), .ref 67]))) {EE SS : Nat → List Nat} (hE : mE h EE SS) {s : Int64} : PM X M_MO_keepString 0 0 0 [.ref 57, .long (s), .int (nI 0)] h (fun z h' => z = none ∧ mE h' EE (va_up SS 10 (SS 10)) ∧ wOff h h' 59 4) := by
  refine PM.at (pl := [some (.ref 57), some (.long (s)), none, some (.int (nI 0))]) rfl rfl (by simp [wle, wen]) ?_
  generalize hEN : wEm X 0 0 _ = EN
  refine w_iload_n d_MO_keepString_0 rfl ?_
  refine w_if_eq (tgt := 37) d_MO_keepString_1 rfl (fun _ => ?_) (fun z => absurd (by decide) z)
  rw [← hEN]
  refine w_vret d_MO_keepString_37 rfl ?_
  rw [va_up_id]
  exact ⟨rfl, hE, wOff.rf⟩
theorem m_MO_keep {h : wH} {sz ap gd dp wr fi : Int32} (hx : h[57]? = some (.inr (7, [.ref 58, .int (sz), .ref 59, .ref 60, .ref 61, .ref 62, .int (ap), .int (gd), .int (dp), .ref 63, .ref 64, .ref 65, .ref 66, .int (wr), .int (fi), .ref 67]))) {EE SS : Nat → List Nat} (hE : mE h EE SS) {s : Nat} {b : Bool} (hl : (SS 10).length < 20) : PM X M_MO_keepString 0 0 0 [.ref 57, .long (lN (s - 4398048608256)), .int (bI b)] h (fun z h' => z = none ∧ mE h' EE (va_up SS 10 (if b = true then SS 10 ++ [s] else SS 10)) ∧ wOff h h' 59 4) := by
  cases b with
  | true => exact m_MO_keepY hx hE hl
  | false => exact m_MO_keepN2 hx hE
set_option maxHeartbeats 4000000 in
set_option maxRecDepth 100000 in
theorem m_MO_make {h : wH} {sz ap gd dp wr fi : Int32} (hx : h[57]? = some (.inr (7, [.ref 58, .int (sz), .ref 59, .ref 60, .ref 61, .ref 62, .int (ap), .int (gd), .int (dp), .ref 63, .ref 64, .ref 65, .ref 66, .int (wr), .int (fi), .ref 67]))) {EE SS : Nat → List Nat} (hE : mE h EE SS) {t b how : Nat} (ht : t < 12) (hb12 : b < 12) (ht10 : t ≠ 10) (hb10 : b ≠ 10) (hh : how ≤ 3) (hTo : eOk (EE t)) (hBo : eOk (EE b)) (hlen : (EE t).length + (EE b).length ≤ 420) (hTs : ∀ y ∈ SS t, sOk y) (hBs : ∀ y ∈ SS b, sOk y) (hsl : (SS t).length + (SS b).length ≤ 20) : PM X M_MO_make 1 0 0 [.ref 57, .int (nI t), .int (nI b), .int (nI how)] h (fun z h' => z = none ∧ mE h' (va_up EE 10 (eCmb how (EE t) (EE b))) (va_up SS 10 (mkS how (SS t) (SS b))) ∧ wOff h h' 59 4) := by
  have tl31 : ∀ y ∈ EE t, y < 2 ^ 31 := fun y hy => by have := hTo.2 y hy; omega
  have bl31 : ∀ y ∈ EE b, y < 2 ^ 31 := fun y hy => by have := hBo.2 y hy; omega
  refine PM.at (pl := [some (.ref 57), some (.int (nI t)), some (.int (nI b)), some (.int (nI how)), none, none, none, none, none, none]) rfl rfl (by simp [wle, wen]) ?_
  generalize hEN : wEm X 0 0 _ = EN
  have L3 : ∀ (n : Nat) (i : Nat) (h3 : wH), ((SS b).length - i < n) → (i ≤ (SS b).length) → (mE h3 (va_up EE 10 (eCmb how (EE t) (EE b))) (va_up SS 10 ((SS t).filter (fun s => eDec how true (decide (s ∈ SS b))) ++ ((SS b).take i).filter (fun s => !decide (s ∈ SS t) && eDec how false true)))) → (wOff h h3 59 4) → WP X M_MO_make (wR 1 0 0) 0 EN 0 0 162 [some (.ref 57), some (.int (nI t)), some (.int (nI b)), some (.int (nI how)), none, none, some (.int (nI i)), none, none, none] [] h3 := by
    intro n
    induction n with
    | zero => intro i h3 k1 k2 k3 k4; omega
    | succ n ih =>
      intro i h3 k1 k2 k3 k4
      have hx3 := (k4 57 (by omega)).trans hx
      obtain ⟨ef, cf, sf, nf, ha, hb, hc, hd, hs⟩ := id k3
      have et : va_up EE 10 (eCmb how (EE t) (EE b)) t = EE t := va_up_ne _ _ ht10
      have eb : va_up EE 10 (eCmb how (EE t) (EE b)) b = EE b := va_up_ne _ _ hb10
      have e10 : va_up EE 10 (eCmb how (EE t) (EE b)) 10 = (eCmb how (EE t) (EE b)) := va_up_self _ _ _
      have st9 : va_up SS 10 ((SS t).filter (fun s => eDec how true (decide (s ∈ SS b))) ++ ((SS b).take i).filter (fun s => !decide (s ∈ SS t) && eDec how false true)) t = SS t := va_up_ne _ _ ht10
      have sb9 : va_up SS 10 ((SS t).filter (fun s => eDec how true (decide (s ∈ SS b))) ++ ((SS b).take i).filter (fun s => !decide (s ∈ SS t) && eDec how false true)) b = SS b := va_up_ne _ _ hb10
      have s10 : va_up SS 10 ((SS t).filter (fun s => eDec how true (decide (s ∈ SS b))) ++ ((SS b).take i).filter (fun s => !decide (s ∈ SS t) && eDec how false true)) 10 = ((SS t).filter (fun s => eDec how true (decide (s ∈ SS b))) ++ ((SS b).take i).filter (fun s => !decide (s ∈ SS t) && eDec how false true)) := va_up_self _ _ _
      refine w_iload d_MO_make_162 rfl ?_
      refine w_aload_n d_MO_make_164 rfl rfl ?_
      refine w_get d_MO_make_165 f_MO_23 hx3 rfl ?_
      refine w_iload_n d_MO_make_168 rfl ?_
      refine w_iald d_MO_make_169 hd (vp_in_nI (by omega) (by decide)) ?_
      refine w_topi (y := nI (SS b).length) (by rw [nI_clamp (by omega)]; have := (hs b hb12).2.1; rw [sb9] at this; exact this) ?_
      refine w_icmp_ge (tgt := 227) d_MO_make_170 rfl (fun c170 => ?_) (fun c170 => ?_)
      · have c170 := (nI_leI (a := (SS b).length) (b := i) (by omega) (by omega)).mp c170
        rw [← hEN]
        refine w_vret d_MO_make_227 rfl ?_
        rw [List.take_of_length_le c170] at k3
        exact ⟨rfl, k3, k4⟩
      · have c170 : i < (SS b).length := Nat.not_le.mp (fun z => c170 ((nI_leI (a := (SS b).length) (b := i) (by omega) (by omega)).mpr z))
        obtain ⟨y, hy⟩ := t_at c170
        have hyk := hBs y (List.mem_of_getElem? hy)
        have hsn := flt_sn (p := fun s => !decide (s ∈ SS t) && eDec how false true) hy
        have hll : ((SS t).filter (fun s => eDec how true (decide (s ∈ SS b))) ++ ((SS b).take i).filter (fun s => !decide (s ∈ SS t) && eDec how false true)).length < 20 := by
          have h1 := List.length_filter_le (fun s => eDec how true (decide (s ∈ SS b))) (SS t)
          have h2 := List.length_filter_le (fun s => !decide (s ∈ SS t) && eDec how false true) ((SS b).take i)
          rw [List.length_take] at h2
          rw [List.length_append]; omega
        have mm := m_MO_strMember (X := X) hx3 k3 (t := t) (s := y) ht hyk (by rw [st9]; exact hTs)
        rw [st9] at mm
        have kk := fun bb : Bool => m_MO_keep (X := X) hx3 k3 (s := y) (b := bb) (by rw [s10]; exact hll)
        simp only [s10, va_up_up] at kk
        refine w_aload_n d_MO_make_173 rfl rfl ?_
        refine w_get d_MO_make_174 f_MO_19 hx3 rfl ?_
        refine w_bipush (v := nI 20) d_MO_make_177 (by decide) ?_
        refine w_iload_n d_MO_make_179 rfl ?_
        refine w_imul d_MO_make_180 ?_
        refine w_topi (y := nI (20 * b)) (pk_mul 20 b) ?_
        refine w_iload d_MO_make_181 rfl ?_
        refine w_iadd d_MO_make_183 ?_
        refine w_topi (y := nI (20 * b + i)) (nI_add _ _) ?_
        refine w_lald d_MO_make_184 hc (vp_in_nI (by omega) (by decide)) ?_
        refine w_topl (y := lN (y - 4398048608256)) (by rw [nI_clamp (by omega)]; exact (hs b hb12).2.2.2.2.2 _ _ (by rw [sb9]; exact hy)) ?_
        refine w_lstore d_MO_make_185 (by decide) ?_
        refine w_pl (pl' := [some (.ref 57), some (.int (nI t)), some (.int (nI b)), some (.int (nI how)), none, none, some (.int (nI i)), some (.long (lN (y - 4398048608256))), none, none]) rfl ?_
        refine w_aload_n d_MO_make_187 rfl rfl ?_
        refine w_iload_n d_MO_make_188 rfl ?_
        refine w_lload d_MO_make_189 rfl ?_
        refine w_callV (as := [.int (nI t), .long (lN (y - 4398048608256))]) (st := []) d_MO_make_191 yM_MO_stringMember l_MO_64 vM_MO_stringMember hx3 rfl rfl rfl rfl (mm) (by decide) (by decide) (by decide) (by decide) (Nat.le_of_ble_eq_true rfl) ?_
        rintro _ h9_1 ⟨rfl, e9_1⟩
        rw [e9_1]
        refine w_eq (st' := [.int (bI (decide (y ∈ SS t)))]) rfl ?_
        refine w_istore d_MO_make_194 (by decide) ?_
        refine w_pl (pl' := [some (.ref 57), some (.int (nI t)), some (.int (nI b)), some (.int (nI how)), none, none, some (.int (nI i)), some (.long (lN (y - 4398048608256))), none, some (.int (bI (decide (y ∈ SS t))))]) rfl ?_
        refine w_aload_n d_MO_make_196 rfl rfl ?_
        refine w_lload d_MO_make_197 rfl ?_
        refine w_iload d_MO_make_199 rfl ?_
        suffices J218 : WP X M_MO_make (wR 1 0 0) 0 EN 0 0 218 [some (.ref 57), some (.int (nI t)), some (.int (nI b)), some (.int (nI how)), none, none, some (.int (nI i)), some (.long (lN (y - 4398048608256))), none, some (.int (bI (decide (y ∈ SS t))))] [.int (bI (!decide (y ∈ SS t) && eDec how false true)), .long (lN (y - 4398048608256)), .ref 57] h3 by
          refine w_if_ne (tgt := 217) d_MO_make_201 rfl (fun c201 => ?_) (fun c201 => ?_)
          · have c201 := of_decide_eq_true (bI_t c201)
            refine w_iconst (v := nI 0) d_MO_make_217 (by decide) ?_
            exact w_topi (by rw [decide_eq_true c201]; rfl) J218
          · have c201 := of_decide_eq_false (bI_f c201)
            refine w_iconst (v := nI 0) d_MO_make_204 (by decide) ?_
            refine w_iconst (v := nI 1) d_MO_make_205 (by decide) ?_
            refine w_iload_n d_MO_make_206 rfl ?_
            refine w_callS (as := [.int (nI 0), .int (nI 1), .int (nI how)]) (st := [.long (lN (y - 4398048608256)), .ref 57]) d_MO_make_207 yM_MO_decided l_MO_60 sM_MO_decided rfl rfl (m_MO_decided (a := false) (b := true) hh) (by decide) (by decide) (by decide) (by decide) (Nat.le_of_ble_eq_true rfl) ?_
            rintro _ h9_2 ⟨rfl, e9_2⟩
            rw [e9_2]
            refine w_eq (st' := [.int (bI (eDec how false true)), .long (lN (y - 4398048608256)), .ref 57]) rfl ?_
            refine w_if_eq (tgt := 217) d_MO_make_210 rfl (fun c210 => ?_) (fun c210 => ?_)
            · refine w_iconst (v := nI 0) d_MO_make_217 (by decide) ?_
              exact w_topi (by rw [decide_eq_false c201, bI_f c210]; rfl) J218
            · refine w_iconst (v := nI 1) d_MO_make_213 (by decide) ?_
              refine w_goto (tgt := 218) d_MO_make_214 rfl ?_
              exact w_topi (by rw [decide_eq_false c201, bI_t c210]; rfl) J218
        refine w_callV (as := [.long (lN (y - 4398048608256)), .int (bI (!decide (y ∈ SS t) && eDec how false true))]) (st := []) d_MO_make_218 yM_MO_keepString l_MO_68 vM_MO_keepString hx3 rfl rfl rfl rfl (kk _) (by decide) (by decide) (by decide) (by decide) (Nat.le_of_ble_eq_true rfl) ?_
        rintro _ h4 ⟨rfl, hE4, ho4⟩
        refine w_eq (st' := []) rfl ?_
        refine w_iinc (v := nI (i + 1)) d_MO_make_221 rfl (nI_1 _) (by decide) ?_
        refine w_pl (pl' := [some (.ref 57), some (.int (nI t)), some (.int (nI b)), some (.int (nI how)), none, none, some (.int (nI (i + 1))), some (.long (lN (y - 4398048608256))), none, some (.int (bI (decide (y ∈ SS t))))]) rfl ?_
        refine w_goto (tgt := 162) d_MO_make_224 rfl ?_
        refine w_le (pl' := [some (.ref 57), some (.int (nI t)), some (.int (nI b)), some (.int (nI how)), none, none, some (.int (nI (i + 1))), none, none, none]) ⟨rfl, rfl, rfl, rfl, rfl, trivial⟩ ?_
        refine ih (i + 1) h4 (by omega) (by omega) ?_ (k4.tr ho4)
        rw [hsn]
        by_cases hz : (!decide (y ∈ SS t) && eDec how false true) = true
        · rw [if_pos hz] at hE4 ⊢; rw [← List.append_assoc]; exact hE4
        · rw [if_neg hz] at hE4 ⊢; rw [List.append_nil]; exact hE4
  have L2 : ∀ (n : Nat) (i : Nat) (h3 : wH), ((SS t).length - i < n) → (i ≤ (SS t).length) → (mE h3 (va_up EE 10 (eCmb how (EE t) (EE b))) (va_up SS 10 (((SS t).take i).filter (fun s => eDec how true (decide (s ∈ SS b)))))) → (wOff h h3 59 4) → WP X M_MO_make (wR 1 0 0) 0 EN 0 0 110 [some (.ref 57), some (.int (nI t)), some (.int (nI b)), some (.int (nI how)), none, none, some (.int (nI i)), none, none, none] [] h3 := by
    intro n
    induction n with
    | zero => intro i h3 k1 k2 k3 k4; omega
    | succ n ih =>
      intro i h3 k1 k2 k3 k4
      have hx3 := (k4 57 (by omega)).trans hx
      obtain ⟨ef, cf, sf, nf, ha, hb, hc, hd, hs⟩ := id k3
      have et : va_up EE 10 (eCmb how (EE t) (EE b)) t = EE t := va_up_ne _ _ ht10
      have eb : va_up EE 10 (eCmb how (EE t) (EE b)) b = EE b := va_up_ne _ _ hb10
      have e10 : va_up EE 10 (eCmb how (EE t) (EE b)) 10 = (eCmb how (EE t) (EE b)) := va_up_self _ _ _
      have st9 : va_up SS 10 (((SS t).take i).filter (fun s => eDec how true (decide (s ∈ SS b)))) t = SS t := va_up_ne _ _ ht10
      have sb9 : va_up SS 10 (((SS t).take i).filter (fun s => eDec how true (decide (s ∈ SS b)))) b = SS b := va_up_ne _ _ hb10
      have s10 : va_up SS 10 (((SS t).take i).filter (fun s => eDec how true (decide (s ∈ SS b)))) 10 = (((SS t).take i).filter (fun s => eDec how true (decide (s ∈ SS b)))) := va_up_self _ _ _
      refine w_iload d_MO_make_110 rfl ?_
      refine w_aload_n d_MO_make_112 rfl rfl ?_
      refine w_get d_MO_make_113 f_MO_23 hx3 rfl ?_
      refine w_iload_n d_MO_make_116 rfl ?_
      refine w_iald d_MO_make_117 hd (vp_in_nI (by omega) (by decide)) ?_
      refine w_topi (y := nI (SS t).length) (by rw [nI_clamp (by omega)]; have := (hs t ht).2.1; rw [st9] at this; exact this) ?_
      refine w_icmp_ge (tgt := 159) d_MO_make_118 rfl (fun c118 => ?_) (fun c118 => ?_)
      · have c118 := (nI_leI (a := (SS t).length) (b := i) (by omega) (by omega)).mp c118
        refine w_iconst (v := nI 0) d_MO_make_159 (by decide) ?_
        refine w_istore d_MO_make_160 (by decide) ?_
        rw [List.take_of_length_le c118] at k3
        refine w_le (pl' := [some (.ref 57), some (.int (nI t)), some (.int (nI b)), some (.int (nI how)), none, none, some (.int (nI 0)), none, none, none]) ⟨rfl, rfl, rfl, rfl, rfl, trivial⟩ ?_
        refine L3 ((SS b).length + 1) 0 h3 (by omega) (Nat.zero_le _) ?_ k4
        rw [List.take_zero, List.filter_nil, List.append_nil]; exact k3
      · have c118 : i < (SS t).length := Nat.not_le.mp (fun z => c118 ((nI_leI (a := (SS t).length) (b := i) (by omega) (by omega)).mpr z))
        obtain ⟨y, hy⟩ := t_at c118
        have hyk := hTs y (List.mem_of_getElem? hy)
        have hsn := flt_sn (p := fun s => eDec how true (decide (s ∈ SS b))) hy
        have hll : (((SS t).take i).filter (fun s => eDec how true (decide (s ∈ SS b)))).length < 20 := by
          have h2 := List.length_filter_le (fun s => eDec how true (decide (s ∈ SS b))) ((SS t).take i)
          rw [List.length_take] at h2
          omega
        have mm := m_MO_strMember (X := X) hx3 k3 (t := b) (s := y) hb12 hyk (by rw [sb9]; exact hBs)
        rw [sb9] at mm
        have kk := fun bb : Bool => m_MO_keep (X := X) hx3 k3 (s := y) (b := bb) (by rw [s10]; exact hll)
        simp only [s10, va_up_up] at kk
        refine w_aload_n d_MO_make_121 rfl rfl ?_
        refine w_get d_MO_make_122 f_MO_19 hx3 rfl ?_
        refine w_bipush (v := nI 20) d_MO_make_125 (by decide) ?_
        refine w_iload_n d_MO_make_127 rfl ?_
        refine w_imul d_MO_make_128 ?_
        refine w_topi (y := nI (20 * t)) (pk_mul 20 t) ?_
        refine w_iload d_MO_make_129 rfl ?_
        refine w_iadd d_MO_make_131 ?_
        refine w_topi (y := nI (20 * t + i)) (nI_add _ _) ?_
        refine w_lald d_MO_make_132 hc (vp_in_nI (by omega) (by decide)) ?_
        refine w_topl (y := lN (y - 4398048608256)) (by rw [nI_clamp (by omega)]; exact (hs t ht).2.2.2.2.2 _ _ (by rw [st9]; exact hy)) ?_
        refine w_lstore d_MO_make_133 (by decide) ?_
        refine w_pl (pl' := [some (.ref 57), some (.int (nI t)), some (.int (nI b)), some (.int (nI how)), none, none, some (.int (nI i)), some (.long (lN (y - 4398048608256))), none, none]) rfl ?_
        refine w_aload_n d_MO_make_135 rfl rfl ?_
        refine w_lload d_MO_make_136 rfl ?_
        refine w_iconst (v := nI 1) d_MO_make_138 (by decide) ?_
        refine w_aload_n d_MO_make_139 rfl rfl ?_
        refine w_iload_n d_MO_make_140 rfl ?_
        refine w_lload d_MO_make_141 rfl ?_
        refine w_callV (as := [.int (nI b), .long (lN (y - 4398048608256))]) (st := [.int (nI 1), .long (lN (y - 4398048608256)), .ref 57]) d_MO_make_143 yM_MO_stringMember l_MO_64 vM_MO_stringMember hx3 rfl rfl rfl rfl (mm) (by decide) (by decide) (by decide) (by decide) (Nat.le_of_ble_eq_true rfl) ?_
        rintro _ h9_3 ⟨rfl, e9_3⟩
        rw [e9_3]
        refine w_eq (st' := [.int (bI (decide (y ∈ SS b))), .int (nI 1), .long (lN (y - 4398048608256)), .ref 57]) rfl ?_
        refine w_iload_n d_MO_make_146 rfl ?_
        refine w_callS (as := [.int (nI 1), .int (bI (decide (y ∈ SS b))), .int (nI how)]) (st := [.long (lN (y - 4398048608256)), .ref 57]) d_MO_make_147 yM_MO_decided l_MO_60 sM_MO_decided rfl rfl (m_MO_decided (a := true) (b := decide (y ∈ SS b)) hh) (by decide) (by decide) (by decide) (by decide) (Nat.le_of_ble_eq_true rfl) ?_
        rintro _ h9_4 ⟨rfl, e9_4⟩
        rw [e9_4]
        refine w_eq (st' := [.int (bI (eDec how true (decide (y ∈ SS b)))), .long (lN (y - 4398048608256)), .ref 57]) rfl ?_
        refine w_callV (as := [.long (lN (y - 4398048608256)), .int (bI (eDec how true (decide (y ∈ SS b))))]) (st := []) d_MO_make_150 yM_MO_keepString l_MO_68 vM_MO_keepString hx3 rfl rfl rfl rfl (kk _) (by decide) (by decide) (by decide) (by decide) (Nat.le_of_ble_eq_true rfl) ?_
        rintro _ h4 ⟨rfl, hE4, ho4⟩
        refine w_eq (st' := []) rfl ?_
        refine w_iinc (v := nI (i + 1)) d_MO_make_153 rfl (nI_1 _) (by decide) ?_
        refine w_pl (pl' := [some (.ref 57), some (.int (nI t)), some (.int (nI b)), some (.int (nI how)), none, none, some (.int (nI (i + 1))), some (.long (lN (y - 4398048608256))), none, none]) rfl ?_
        refine w_goto (tgt := 110) d_MO_make_156 rfl ?_
        refine w_le (pl' := [some (.ref 57), some (.int (nI t)), some (.int (nI b)), some (.int (nI how)), none, none, some (.int (nI (i + 1))), none, none, none]) ⟨rfl, rfl, rfl, rfl, rfl, trivial⟩ ?_
        refine ih (i + 1) h4 (by omega) (by omega) ?_ (k4.tr ho4)
        rw [hsn]
        by_cases hz : eDec how true (decide (y ∈ SS b)) = true
        · rw [if_pos hz] at hE4 ⊢; exact hE4
        · rw [if_neg hz] at hE4 ⊢; rw [List.append_nil]; exact hE4
  have L1 : ∀ (n : Nat) (x : Nat) (h3 : wH), (1114113 - x < n) → (x ≤ 1114113) → (mE h3 (va_up EE 10 (eCh (fun c => eDec how (eMem (EE t) c) (eMem (EE b) c)) x)) (va_up SS 10 [])) → (wOff h h3 59 4) → WP X M_MO_make (wR 1 0 0) 0 EN 0 0 18 [some (.ref 57), some (.int (nI t)), some (.int (nI b)), some (.int (nI how)), some (.int (bI (ePrev (fun c => eDec how (eMem (EE t) c) (eMem (EE b) c)) x))), some (.int (nI x)), none, none, none, none] [] h3 := by
    intro n
    induction n with
    | zero => intro x h3 k1 k2 k3 k4; omega
    | succ n ih =>
      intro x h3 k1 k2 k3 k4
      have hx3 := (k4 57 (by omega)).trans hx
      obtain ⟨ef, cf, sf, nf, ha, hb, hc, hd, hs⟩ := id k3
      have et : va_up EE 10 (eCh (fun c => eDec how (eMem (EE t) c) (eMem (EE b) c)) x) t = EE t := va_up_ne _ _ ht10
      have eb : va_up EE 10 (eCh (fun c => eDec how (eMem (EE t) c) (eMem (EE b) c)) x) b = EE b := va_up_ne _ _ hb10
      have e10 : va_up EE 10 (eCh (fun c => eDec how (eMem (EE t) c) (eMem (EE b) c)) x) 10 = (eCh (fun c => eDec how (eMem (EE t) c) (eMem (EE b) c)) x) := va_up_self _ _ _
      have st9 : va_up SS 10 [] t = SS t := va_up_ne _ _ ht10
      have sb9 : va_up SS 10 [] b = SS b := va_up_ne _ _ hb10
      have s10 : va_up SS 10 [] 10 = [] := va_up_self _ _ _
      refine w_iload d_MO_make_18 rfl ?_
      refine w_ldc (v := nI 1114112) d_MO_make_20 k_MO_42 ?_
      refine w_icmp_gt (tgt := 107) d_MO_make_22 rfl (fun c22 => ?_) (fun c22 => ?_)
      · have c22 : x = 1114113 := by have := (nI_ltI (a := 1114112) (b := x) (by decide) (by omega)).mp c22; omega
        subst c22
        refine w_iconst (v := nI 0) d_MO_make_107 (by decide) ?_
        refine w_istore d_MO_make_108 (by decide) ?_
        refine w_le (pl' := [some (.ref 57), some (.int (nI t)), some (.int (nI b)), some (.int (nI how)), none, none, some (.int (nI 0)), none, none, none]) ⟨rfl, rfl, rfl, rfl, rfl, trivial⟩ ?_
        exact L2 ((SS t).length + 1) 0 h3 (by omega) (Nat.zero_le _) k3 k4
      · have c22 : x ≤ 1114112 := Nat.not_lt.mp (fun z => c22 ((nI_ltI (a := 1114112) (b := x) (by decide) (by omega)).mpr z))
        have m1 := m_MO_member (X := X) hx3 k3 (t := t) (c := x) ht (by omega) (by rw [et]; exact tl31)
        rw [et] at m1
        have m2 := m_MO_member (X := X) hx3 k3 (t := b) (c := x) hb12 (by omega) (by rw [eb]; exact bl31)
        rw [eb] at m2
        refine w_aload_n d_MO_make_25 rfl rfl ?_
        refine w_iload_n d_MO_make_26 rfl ?_
        refine w_iload d_MO_make_27 rfl ?_
        refine w_callV (as := [.int (nI t), .int (nI x)]) (st := []) d_MO_make_29 yM_MO_member l_MO_56 vM_MO_member hx3 rfl rfl rfl rfl (m1) (by decide) (by decide) (by decide) (by decide) (Nat.le_of_ble_eq_true rfl) ?_
        rintro _ h9_5 ⟨rfl, e9_5⟩
        rw [e9_5]
        refine w_eq (st' := [.int (bI (eMem (EE t) x))]) rfl ?_
        refine w_istore d_MO_make_32 (by decide) ?_
        refine w_pl (pl' := [some (.ref 57), some (.int (nI t)), some (.int (nI b)), some (.int (nI how)), some (.int (bI (ePrev (fun c => eDec how (eMem (EE t) c) (eMem (EE b) c)) x))), some (.int (nI x)), some (.int (bI (eMem (EE t) x))), none, none, none]) rfl ?_
        refine w_iload d_MO_make_34 rfl ?_
        refine w_aload_n d_MO_make_36 rfl rfl ?_
        refine w_iload_n d_MO_make_37 rfl ?_
        refine w_iload d_MO_make_38 rfl ?_
        refine w_callV (as := [.int (nI b), .int (nI x)]) (st := [.int (bI (eMem (EE t) x))]) d_MO_make_40 yM_MO_member l_MO_56 vM_MO_member hx3 rfl rfl rfl rfl (m2) (by decide) (by decide) (by decide) (by decide) (Nat.le_of_ble_eq_true rfl) ?_
        rintro _ h9_6 ⟨rfl, e9_6⟩
        rw [e9_6]
        refine w_eq (st' := [.int (bI (eMem (EE b) x)), .int (bI (eMem (EE t) x))]) rfl ?_
        refine w_iload_n d_MO_make_43 rfl ?_
        refine w_callS (as := [.int (bI (eMem (EE t) x)), .int (bI (eMem (EE b) x)), .int (nI how)]) (st := []) d_MO_make_44 yM_MO_decided l_MO_60 sM_MO_decided rfl rfl (m_MO_decided hh) (by decide) (by decide) (by decide) (by decide) (Nat.le_of_ble_eq_true rfl) ?_
        rintro _ h9_7 ⟨rfl, e9_7⟩
        rw [e9_7]
        refine w_eq (st' := [.int (bI ((fun c => eDec how (eMem (EE t) c) (eMem (EE b) c)) x))]) rfl ?_
        refine w_istore d_MO_make_47 (by decide) ?_
        refine w_pl (pl' := [some (.ref 57), some (.int (nI t)), some (.int (nI b)), some (.int (nI how)), some (.int (bI (ePrev (fun c => eDec how (eMem (EE t) c) (eMem (EE b) c)) x))), some (.int (nI x)), some (.int (bI (eMem (EE t) x))), some (.int (bI ((fun c => eDec how (eMem (EE t) c) (eMem (EE b) c)) x))), none, none]) rfl ?_
        refine w_iload d_MO_make_49 rfl ?_
        refine w_iload d_MO_make_51 rfl ?_
        suffices J94 : ∀ hJ : wH, (mE hJ (va_up EE 10 (eCh (fun c => eDec how (eMem (EE t) c) (eMem (EE b) c)) (x + 1))) (va_up SS 10 []) ∧ wOff h hJ 59 4) → WP X M_MO_make (wR 1 0 0) 0 EN 0 0 94 [some (.ref 57), some (.int (nI t)), some (.int (nI b)), some (.int (nI how)), some (.int (bI ((fun c => eDec how (eMem (EE t) c) (eMem (EE b) c)) x))), some (.int (nI x)), some (.int (bI (eMem (EE t) x))), some (.int (bI ((fun c => eDec how (eMem (EE t) c) (eMem (EE b) c)) x))), none, none] [] hJ by
          refine w_icmp_eq (tgt := 94) d_MO_make_53 rfl (fun c53 => ?_) (fun c53 => ?_)
          · have c53 := (bI_eq _ _).mp c53
            have eC9 : eCh (fun c => eDec how (eMem (EE t) c) (eMem (EE b) c)) (x + 1) = (eCh (fun c => eDec how (eMem (EE t) c) (eMem (EE b) c)) x) := if_pos c53
            rw [← c53]
            exact J94 h3 ⟨by rw [eC9]; exact k3, k4⟩
          · have c53 := fun z => c53 ((bI_eq _ _).mpr z)
            refine w_aload_n d_MO_make_56 rfl rfl ?_
            refine w_get d_MO_make_57 f_MO_13 hx3 rfl ?_
            refine w_sipush (v := nI 4200) d_MO_make_60 (by decide) ?_
            refine w_aload_n d_MO_make_63 rfl rfl ?_
            refine w_get d_MO_make_64 f_MO_16 hx3 rfl ?_
            refine w_bipush (v := nI 10) d_MO_make_67 (by decide) ?_
            refine w_iald d_MO_make_69 hb (vp_in_nI (by omega) (by decide)) ?_
            refine w_topi (y := nI (eCh (fun c => eDec how (eMem (EE t) c) (eMem (EE b) c)) x).length) (by have := (hs 10 (by decide)).1; rw [e10] at this; exact this) ?_
            have eC9 : eCh (fun c => eDec how (eMem (EE t) c) (eMem (EE b) c)) (x + 1) = (eCh (fun c => eDec how (eMem (EE t) c) (eMem (EE b) c)) x) ++ [x] := if_neg c53
            have lC9 : (eCh (fun c => eDec how (eMem (EE t) c) (eMem (EE b) c)) x).length < 420 := by
              have := eCh_len (how := how) (L := EE t) (R := EE b) (x + 1) (by omega)
              rw [eC9, List.length_append, List.length_singleton] at this
              omega
            refine w_iadd d_MO_make_70 ?_
            refine w_topi (y := nI (4200 + (eCh (fun c => eDec how (eMem (EE t) c) (eMem (EE b) c)) x).length)) (nI_add _ _) ?_
            refine w_iload d_MO_make_71 rfl ?_
            refine w_iast d_MO_make_73 ha (vp_in_nI (by omega) (by decide)) ?_
            refine w_nm (fun h8 e8 => ?_)
            have hx3_8 := wS_ne e8 (by omega) hx3
            have ha_8 := wS_eq e8 ha
            have hb_8 := wS_ne e8 (by omega) hb
            have hc_8 := wS_ne e8 (by omega) hc
            have hd_8 := wS_ne e8 (by omega) hd
            refine w_aload_n d_MO_make_74 rfl rfl ?_
            refine w_get d_MO_make_75 f_MO_16 hx3_8 rfl ?_
            refine w_bipush (v := nI 10) d_MO_make_78 (by decide) ?_
            refine w_aload_n d_MO_make_80 rfl rfl ?_
            refine w_get d_MO_make_81 f_MO_16 hx3_8 rfl ?_
            refine w_bipush (v := nI 10) d_MO_make_84 (by decide) ?_
            refine w_iald d_MO_make_86 hb_8 (vp_in_nI (by omega) (by decide)) ?_
            refine w_topi (y := nI (eCh (fun c => eDec how (eMem (EE t) c) (eMem (EE b) c)) x).length) (by have := (hs 10 (by decide)).1; rw [e10] at this; exact this) ?_
            refine w_iconst (v := nI 1) d_MO_make_87 (by decide) ?_
            refine w_iadd d_MO_make_88 ?_
            refine w_topi (y := nI ((eCh (fun c => eDec how (eMem (EE t) c) (eMem (EE b) c)) x).length + 1)) (nI_1 _) ?_
            refine w_iast d_MO_make_89 hb_8 (vp_in_nI (by omega) (by decide)) ?_
            refine w_nm (fun h9 e9 => ?_)
            have hx3_9 := wS_ne e9 (by omega) hx3_8
            have ha_9 := wS_ne e9 (by omega) ha_8
            have hb_9 := wS_eq e9 hb_8
            have hc_9 := wS_ne e9 (by omega) hc_8
            have hd_9 := wS_ne e9 (by omega) hd_8
            refine w_iload d_MO_make_90 rfl ?_
            refine w_istore d_MO_make_92 (by decide) ?_
            refine w_pl (pl' := [some (.ref 57), some (.int (nI t)), some (.int (nI b)), some (.int (nI how)), some (.int (bI ((fun c => eDec how (eMem (EE t) c) (eMem (EE b) c)) x))), some (.int (nI x)), some (.int (bI (eMem (EE t) x))), some (.int (bI ((fun c => eDec how (eMem (EE t) c) (eMem (EE b) c)) x))), none, none]) rfl ?_
            exact J94 h9 ⟨by rw [eC9]; refine ⟨_, _, _, _, ha_9, hb_9, hc_9, hd_9, ?_⟩; rw [nI_clamp (by omega), nI_clamp (by decide)]; have := mS_push (x := x) hs (by decide : 10 < 12) (by rw [e10]; exact lC9); rw [e10, va_up_up] at this; exact this, fun k hk => by rw [wS_off e9 (by omega), wS_off e8 (by omega), k4 k hk]⟩
        intro hJ k5
        have hx5 := (k5.2 57 (by omega)).trans hx
        have nn := m_MO_nextEdge (X := X) hx5 k5.1 (t := t) (b := b) (lo := x + 1) ht hb12 (hlo_nI (by omega)) (by rw [va_up_ne _ _ ht10]; exact tl31) (by rw [va_up_ne _ _ hb10]; exact bl31)
        rw [va_up_ne _ _ ht10, va_up_ne _ _ hb10] at nn
        refine w_aload_n d_MO_make_94 rfl rfl ?_
        refine w_iload_n d_MO_make_95 rfl ?_
        refine w_iload_n d_MO_make_96 rfl ?_
        refine w_iload d_MO_make_97 rfl ?_
        refine w_callV (as := [.int (nI t), .int (nI b), .int (nI x)]) (st := []) d_MO_make_99 yM_MO_nextEdge l_MO_52 vM_MO_nextEdge hx5 rfl rfl rfl rfl (nn) (by decide) (by decide) (by decide) (by decide) (Nat.le_of_ble_eq_true rfl) ?_
        rintro _ h9_10 ⟨rfl, e9_10⟩
        rw [e9_10]
        refine w_eq (st' := [.int (nI (nxE (EE t) (EE b) (x + 1)))]) rfl ?_
        refine w_istore d_MO_make_102 (by decide) ?_
        refine w_pl (pl' := [some (.ref 57), some (.int (nI t)), some (.int (nI b)), some (.int (nI how)), some (.int (bI ((fun c => eDec how (eMem (EE t) c) (eMem (EE b) c)) x))), some (.int (nI (nxE (EE t) (EE b) (x + 1)))), some (.int (bI (eMem (EE t) x))), some (.int (bI ((fun c => eDec how (eMem (EE t) c) (eMem (EE b) c)) x))), none, none]) rfl ?_
        refine w_goto (tgt := 18) d_MO_make_104 rfl ?_
        have hgp := nx_gap (how := how) (L := EE t) (R := EE b) (lo := x + 1) (by omega)
        refine w_le (pl' := [some (.ref 57), some (.int (nI t)), some (.int (nI b)), some (.int (nI how)), some (.int (bI ((fun c => eDec how (eMem (EE t) c) (eMem (EE b) c)) x))), some (.int (nI (nxE (EE t) (EE b) (x + 1)))), none, none, none, none]) ⟨rfl, rfl, rfl, rfl, rfl, rfl, trivial⟩ ?_
        rw [show (fun c => eDec how (eMem (EE t) c) (eMem (EE b) c)) x = ePrev (fun c => eDec how (eMem (EE t) c) (eMem (EE b) c)) (nxE (EE t) (EE b) (x + 1)) from hgp.2.2.2.symm]
        refine ih _ hJ (by omega) hgp.2.1 ?_ k5.2
        rw [hgp.2.2.1]
        exact k5.1
  refine w_aload_n d_MO_make_0 rfl rfl ?_
  refine w_bipush (v := nI 10) d_MO_make_1 (by decide) ?_
  refine w_callV (as := [.int (nI 10)]) (st := []) d_MO_make_3 yM_MO_empty l_MO_48 vM_MO_empty hx rfl rfl rfl rfl (m_MO_empty hx hE (t := 10) (by decide)) (by decide) (by decide) (by decide) (by decide) (Nat.le_of_ble_eq_true rfl) ?_
  rintro _ h1_ ⟨rfl, hE1, ho1⟩
  refine w_eq (st' := []) rfl ?_
  have hx1 := (ho1 57 (by omega)).trans hx
  have nn := m_MO_nextEdge (X := X) hx1 hE1 (t := t) (b := b) (lo := 0) (x := -1) ht hb12 hlo_m1 (by rw [va_up_ne _ _ ht10]; exact tl31) (by rw [va_up_ne _ _ hb10]; exact bl31)
  rw [va_up_ne _ _ ht10, va_up_ne _ _ hb10] at nn
  refine w_iconst (v := nI 0) d_MO_make_6 (by decide) ?_
  refine w_istore d_MO_make_7 (by decide) ?_
  refine w_pl (pl' := [some (.ref 57), some (.int (nI t)), some (.int (nI b)), some (.int (nI how)), some (.int (nI 0)), none, none, none, none, none]) rfl ?_
  refine w_aload_n d_MO_make_9 rfl rfl ?_
  refine w_iload_n d_MO_make_10 rfl ?_
  refine w_iload_n d_MO_make_11 rfl ?_
  refine w_iconst (v := -1) d_MO_make_12 (by decide) ?_
  refine w_callV (as := [.int (nI t), .int (nI b), .int (-1)]) (st := []) d_MO_make_13 yM_MO_nextEdge l_MO_52 vM_MO_nextEdge hx1 rfl rfl rfl rfl (nn) (by decide) (by decide) (by decide) (by decide) (Nat.le_of_ble_eq_true rfl) ?_
  rintro _ h9_11 ⟨rfl, e9_11⟩
  rw [e9_11]
  refine w_eq (st' := [.int (nI (nxE (EE t) (EE b) 0))]) rfl ?_
  refine w_istore d_MO_make_16 (by decide) ?_
  refine w_pl (pl' := [some (.ref 57), some (.int (nI t)), some (.int (nI b)), some (.int (nI how)), some (.int (nI 0)), some (.int (nI (nxE (EE t) (EE b) 0))), none, none, none, none]) rfl ?_
  have hgp := nx_gap (how := how) (L := EE t) (R := EE b) (lo := 0) (by omega)
  rw [show nI 0 = bI (ePrev (fun c => eDec how (eMem (EE t) c) (eMem (EE b) c)) (nxE (EE t) (EE b) 0)) by rw [hgp.2.2.2]; rfl]
  refine L1 1114114 _ h1_ (by omega) hgp.2.1 ?_ ho1
  rw [hgp.2.2.1]
  exact hE1
end MO2
