/-! the reference's value and apply: written by wip/gen/mo18.py -/
theorem pJ {t : List Nat} {B B' : Nat → Br} {d d' k nx : Nat} {I V : List Nat × List Nat} {z : Bool} (h1 : d ≤ 5) (h2 : ∀ j, j < d → iOk (B j).1 ∧ (B j).2.2.2.2 ≤ 3 ∧ ((B j).2.2.2.1 = true → (B j).2.2.1 ≠ 0)) (hI : iOk I) (h3 : eTot B d + I.1.length ≤ 2 * k) (h4 : k ≤ t.length) (h : rJoin B d k I z = some (B', d', nx, V)) : pInv t B' d' nx ∧ nx = k ∧ (d' = 0 → iOk V ∧ V.1.length ≤ 2 * nx) := by
  cases d with
  | zero =>
    cases h
    exact ⟨⟨h1, h2, by omega, h4, fun j hj => by omega⟩, rfl, fun _ => ⟨hI, by omega⟩⟩
  | succ j =>
    rw [rJoin_S] at h
    split at h
    · rename_i h8
      cases h
      refine ⟨⟨h1, fun i hi => ?_, ?_, h4, fun i hi hw => ?_⟩, rfl, fun z9 => by omega⟩
      · by_cases hij : i = j
        · subst hij
          rw [bUp_at]
          exact ⟨iOk_mg (h2 i (by omega)).1 hI h8, Nat.zero_le _, fun _ z9 => by cases z9⟩
        · rw [bUp_ne _ _ hij]
          exact h2 i hi
      · rw [eTot_up1]
        have := eCmb_len (B j).2.2.2.2 (B j).1.1 I.1
        have e1 : eTot B (j + 1) = eTot B j + (B j).1.1.length + (if (B j).2.1 = true then 2 else 0) := rfl
        dsimp only
        omega
      · have hij : i = j := by omega
        subst hij
        rw [bUp_at] at hw
        exact absurd rfl hw
    · cases h
theorem pRd_ok {t : List Nat} (ht : ∀ x ∈ t, x < 1114112) : ∀ (f k : Nat) (l : List Nat) (k' : Nat) (l' : List Nat), pRd t f k l = some (k', l') → (∀ x ∈ l, x < 1114112) → k ≤ k' ∧ ∀ x ∈ l', x < 1114112
  | 0, k, l, k', l', h, hl => by cases h; exact ⟨Nat.le_refl _, hl⟩
  | f + 1, k, l, k', l', h, hl => by
    rw [pRd_S] at h
    split at h
    · cases h; exact ⟨Nat.le_refl _, hl⟩
    · cases hc : rc t k with
      | none => rw [hc] at h; cases h
      | some q =>
        obtain ⟨a, k1⟩ := q
        rw [hc] at h
        have h1 := rc_ok ht hc
        have h2 := pSp_b t k1
        have h3 := pRd_ok ht f (pSp t k1) (l ++ [a]) k' l' h (fun x hx => by
          rcases List.mem_append.mp hx with z | z
          · exact hl x z
          · rw [List.mem_singleton] at z; rw [z]; exact h1.1)
        exact ⟨by omega, h3.2⟩
theorem pStF_j {B : Nat → Br} {d k : Nat} {l : List Nat} {r : rS} (hl : ∀ x ∈ l, x < 1114112) (h : pStF B d k l = some r) : ∃ I, iOk I ∧ I.1.length ≤ 2 ∧ rJoin B d (k + 1) I false = some r := by
  unfold pStF at h
  split at h
  · rename_i a
    have h1 := hl a (by simp)
    exact ⟨_, iOk_ran (Nat.le_refl _) h1, Nat.le_refl _, h⟩
  · rename_i a b
    exact ⟨_, iOk_key (kOf_ok (hl a (by simp)) (hl b (by simp)) (Nat.zero_le _)), Nat.zero_le _, h⟩
  · rename_i a b c
    have h1 := hl c (by simp)
    exact ⟨_, iOk_key (kOf_ok (hl a (by simp)) (hl b (by simp)) (by omega)), Nat.zero_le _, h⟩
  · cases h
theorem pItem_inv {t : List Nat} (ht : ∀ x ∈ t, x < 1114112) {B B' : Nat → Br} {d d' k k' : Nat} {V : List Nat × List Nat} (hi : pInv t B d k) (h : pItem t B d k = some (B', d', k', V)) : pInv t B' d' k' ∧ k < k' ∧ (d' = 0 → iOk V ∧ V.1.length ≤ 2 * k') := by
  have hip := hi.sp
  have hb := pSp_b t k
  unfold pItem at h
  split at h
  · rename_i q w hx
    have hok := pX_ok ht hx
    generalize pSp t k = p at *
    obtain ⟨h1, h2, h3, h4, h5⟩ := hip
    unfold pKind at h
    split at h
    · cases h
    split at h
    · unfold pChr at h
      cases hc : rc t p with
      | none => rw [hc] at h; cases h
      | some q1 =>
        obtain ⟨a, k1⟩ := q1
        have ho := rc_ok ht hc
        rw [hc] at h
        dsimp only at h
        split at h
        · have hs1 := pSp_b t k1
          have hs2 := pSp_b t (pSp t k1 + 1)
          cases hc2 : rc t (pSp t (pSp t k1 + 1)) with
          | none => rw [hc2] at h; cases h
          | some q2 =>
            obtain ⟨b, k2⟩ := q2
            have ho2 := rc_ok ht hc2
            rw [hc2] at h
            dsimp only at h
            split at h
            · rename_i hab
              have e2 : (rRan a b).1.length = 2 := rfl
              have r := pJ (t := t) h1 h2 (iOk_ran hab ho2.1) (by omega) ho2.2.2 h
              exact ⟨r.1, by omega, r.2.2⟩
            · cases h
        · have e2 : (rRan a a).1.length = 2 := rfl
          have r := pJ (t := t) h1 h2 (iOk_ran (Nat.le_refl _) ho.1) (by omega) ho.2.2 h
          exact ⟨r.1, by omega, r.2.2⟩
    split at h
    · rename_i hk
      have htb := pTab_ok hok.1 hk
      have r := pJ (t := t) h1 h2 (I := (pTab q, [])) ⟨htb.1, List.Pairwise.nil, fun y hy => (by cases hy), Nat.zero_le _⟩ (by show eTot B d + (pTab q).length ≤ _; omega) hok.2.2.1 h
      exact ⟨r.1, by omega, r.2.2⟩
    split at h
    · unfold pOpen rOpen at h
      split at h
      · rename_i hd5
        cases h
        have hpl : (if t[p + 1]? = some 94 then p + 1 else p) < t.length ∧ p ≤ (if t[p + 1]? = some 94 then p + 1 else p) ∧ (t[p + 1]? = some 94 → p + 1 ≤ (if t[p + 1]? = some 94 then p + 1 else p)) := by
          split
          · rename_i z; have := lx_lt z; omega
          · rename_i z; exact ⟨by omega, Nat.le_refl _, fun y => absurd y z⟩
        refine ⟨⟨by omega, fun i hi9 => ?_, ?_, by omega, fun i hi9 hw => ?_⟩, by omega, fun z => by omega⟩
        · by_cases hid : i = d
          · subst hid
            rw [bUp_at]
            exact ⟨⟨⟨List.Pairwise.nil, fun x hx => by cases hx⟩, List.Pairwise.nil, fun y hy => (by cases hy), Nat.zero_le _⟩, Nat.zero_le _, fun z => by cases z⟩
          · rw [bUp_ne _ _ hid]
            exact h2 i (by omega)
        · rw [eTot_up1]
          dsimp only
          have e0 : ([] : List Nat).length = 0 := rfl
          by_cases h94 : t[p + 1]? = some 94
          · have := hpl.2.2 h94
            split <;> omega
          · rw [if_neg (by rw [decide_eq_false h94]; decide)]
            omega
        · have : i = d := by omega
          subst this
          rw [bUp_at] at hw
          exact absurd rfl hw
      · cases h
    split at h
    · cases d with
      | zero => cases h
      | succ j =>
        have e1 : eTot B (j + 1) = eTot B j + (B j).1.1.length + (if (B j).2.1 = true then 2 else 0) := rfl
        by_cases hoth : (B j).2.1 = true
        · by_cases hs : (B j).1.2 = []
          · rw [rEnd_T1 hoth hs] at h
            rw [if_pos hoth] at e1
            have hle := eCmb_len 3 (B j).1.1 [0, 1114112]
            have e2 : [0, 1114112].length = 2 := rfl
            have r := pJ (t := t) (by omega) (fun i hi9 => by rw [bUp_ne _ _ (by omega)]; exact h2 i (by omega)) iOk_cmb (by rw [eTot_up _ _ _ _ (Nat.le_refl _)]; show eTot B j + (eCmb 3 (B j).1.1 [0, 1114112]).length ≤ _; omega) (by omega) h
            exact ⟨r.1, by omega, r.2.2⟩
          · rw [rEnd_T0 hoth hs] at h
            cases h
        · have hoth : (B j).2.1 = false := by cases hz : (B j).2.1 with | true => exact absurd hz hoth | false => rfl
          rw [rEnd_F hoth] at h
          have r := pJ (t := t) (by omega) (fun i hi9 => h2 i (by omega)) (h2 j (by omega)).1 (by omega) (by omega) h
          exact ⟨r.1, by omega, r.2.2⟩
    split at h
    · unfold pStr at h
      cases hr : pRd t 3 (pSp t (p + 1)) [] with
      | none => rw [hr] at h; cases h
      | some ql =>
        obtain ⟨k2, l⟩ := ql
        rw [hr] at h
        dsimp only at h
        have hrk := pRd_ok ht _ _ _ _ _ hr (fun x hx => by cases hx)
        have hs1 := pSp_b t (p + 1)
        split at h
        · rename_i h125
          have hl := lx_lt h125
          obtain ⟨I, i1, i2, i3⟩ := pStF_j hrk.2 h
          have r := pJ (t := t) h1 h2 i1 (by omega) (by omega) i3
          exact ⟨r.1, by omega, r.2.2⟩
        · cases h
    split at h
    · cases d with
      | zero => cases h
      | succ j =>
        unfold pSgn at h
        dsimp only at h
        have hs1 := pSp_b t (p + 1)
        split at h
        · have e2 : (rRan 45 45).1.length = 2 := rfl
          have r := pJ (t := t) h1 h2 (iOk_ran (Nat.le_refl _) (by decide)) (by omega) (by omega) h
          exact ⟨r.1, by omega, r.2.2⟩
        · split at h
          · rename_i hsg
            cases h
            have hj2 := h2 j (by omega)
            refine ⟨⟨h1, fun i hi9 => ?_, ?_, hs1.2 (by omega), fun i hi9 hw => hsg.2⟩, by omega, fun z => by omega⟩
            · by_cases hid : i = j
              · subst hid
                rw [bUp_at]
                refine ⟨hj2.1, ?_, hj2.2.2⟩
                dsimp only
                split <;> omega
              · rw [bUp_ne _ _ hid]
                exact h2 i hi9
            · rw [eTot_up1]
              have e1 : eTot B (j + 1) = eTot B j + (B j).1.1.length + (if (B j).2.1 = true then 2 else 0) := rfl
              dsimp only
              omega
          · cases h
    · cases h
  · cases h
def pLoop (t : List Nat) : Nat → (Nat → Br) → Nat → Nat → Option (List Nat × List Nat)
  | 0, _, _, _ => none
  | n + 1, B, d, k => match pItem t B d k with
    | none => none
    | some (B', d', k', V) => if d' = 0 then (if k' = t.length then some V else none) else pLoop t n B' d' k'
/-- the value of a text, as the reference reads it -/
def pVal (t : List Nat) (B : Nat → Br) : Option (List Nat × List Nat) := if t[0]? = some 32 then none else pLoop t 61 B 0 0
def RX (t : List Nat) (n : Nat) (x : Option rS) : Option (List Nat × List Nat) := match x with
  | none => none
  | some (B', d', k', V) => if d' = 0 then (if k' = t.length then some V else none) else pLoop t n B' d' k'
theorem pLoop_S (t : List Nat) (n : Nat) (B : Nat → Br) (d k : Nat) : pLoop t (n + 1) B d k = RX t n (pItem t B d k) := rfl
theorem pSp_0 {t : List Nat} (h : ¬ t[0]? = some 32) : pSp t 0 = 0 := pSp_no h
theorem pVal_A {t : List Nat} {B : Nat → Br} (h : pA t 0) : pVal t B = match pX t 0 with | some (some q, w) => if w = t.length then some (pTab q, []) else none | _ => none := by
  have h32 : ¬ t[0]? = some 32 := by
    rcases h with z | z
    · rw [z.1]; decide
    · rw [z.1]; decide
  unfold pVal
  rw [if_neg h32, pLoop_S]
  have e : pItem t B 0 0 = match pX t (pSp t 0) with | some (some q, w) => pKind t B 0 (pSp t 0) q w | _ => none := rfl
  rw [e, pSp_0 h32]
  split
  · rename_i q w hx
    have hk := pX_prop h hx
    unfold pKind
    rw [if_neg (by omega), if_neg (by omega), if_pos hk, rJoin_0]
    unfold RX
    dsimp only
    rw [if_pos rfl, Nat.zero_add]
  · rfl
theorem pVal_B {t : List Nat} {B : Nat → Br} (h : t[0]? = some 91) (hn : ¬ pA t 0) : pVal t B = RX t 60 (pOpen t B 0 0) := by
  have h32 : ¬ t[0]? = some 32 := by rw [h]; decide
  have h58 : ¬ t[0 + 1]? = some 58 := fun z => hn (Or.inl ⟨h, z⟩)
  unfold pVal
  rw [if_neg h32, pLoop_S]
  have e : pItem t B 0 0 = match pX t (pSp t 0) with | some (some q, w) => pKind t B 0 (pSp t 0) q w | _ => none := rfl
  rw [e, pSp_0 h32, pX_at h, show lxAt t 0 91 = lxOpen t 0 from rfl]
  congr 1
  unfold lxOpen
  by_cases h94 : t[0 + 1]? = some 94
  · rw [if_pos h94]
    dsimp only
    unfold pKind
    rw [if_neg (show ¬ ((0 : Nat) = 0 ∧ ¬ ((5 : Nat) = 4 ∨ (5 : Nat) = 5 ∨ (5 : Nat) = 2 ∨ (5 : Nat) = 3)) by decide), if_neg (show ¬ (5 : Nat) = 1 by decide), if_neg (show ¬ ((5 : Nat) = 2 ∨ (5 : Nat) = 3) by decide), if_pos (Or.inr rfl)]
  · rw [if_neg h94, if_neg h58]
    dsimp only
    unfold pKind
    rw [if_neg (show ¬ ((0 : Nat) = 0 ∧ ¬ ((4 : Nat) = 4 ∨ (4 : Nat) = 5 ∨ (4 : Nat) = 2 ∨ (4 : Nat) = 3)) by decide), if_neg (show ¬ (4 : Nat) = 1 by decide), if_neg (show ¬ ((4 : Nat) = 2 ∨ (4 : Nat) = 3) by decide), if_pos (Or.inl rfl)]
theorem lxAt_k0 {t : List Nat} {p c w : Nat} {q : Nat × Int32} (h : lxAt t p c = some (some q, w)) (hk : q.1 = 4 ∨ q.1 = 5 ∨ q.1 = 2 ∨ q.1 = 3) : c = 91 ∨ (c = 92 ∧ (t[p + 1]? = some 112 ∨ t[p + 1]? = some 80)) := by
  refine Decidable.byContradiction fun hn => ?_
  have h91 : ¬ c = 91 := fun z => hn (Or.inl z)
  unfold lxAt at h
  rw [if_neg h91] at h
  by_cases h92 : c = 92
  · subst h92
    rw [if_neg (by decide), if_neg (by decide), if_neg (by decide), if_pos rfl, if_neg (fun z => hn (Or.inr ⟨rfl, z⟩))] at h
    have := lxEsc_k h
    omega
  · rw [if_neg h92] at h
    split at h
    · cases h
    split at h
    · cases h; dsimp only at hk; omega
    split at h
    · cases h; dsimp only at hk; omega
    split at h
    · cases h; dsimp only at hk; omega
    split at h
    · cases h
    split at h
    · cases h; dsimp only at hk; omega
    split at h
    · cases h; dsimp only at hk; omega
    · cases h; dsimp only at hk; omega
theorem pVal_C {t : List Nat} {B : Nat → Br} (h1 : ¬ t[0]? = some 91) (h2 : ¬ pA t 0) : pVal t B = none := by
  unfold pVal
  split
  · rfl
  · rename_i h32
    rw [pLoop_S]
    have e : pItem t B 0 0 = match pX t (pSp t 0) with | some (some q, w) => pKind t B 0 (pSp t 0) q w | _ => none := rfl
    rw [e, pSp_0 h32]
    split
    · rename_i q w hx
      unfold pX at hx
      cases hc : t[0]? with
      | none => rw [hc] at hx; cases hx
      | some c =>
        rw [hc] at hx
        have hk : ¬ (q.1 = 4 ∨ q.1 = 5 ∨ q.1 = 2 ∨ q.1 = 3) := fun z => by
          rcases lxAt_k0 hx z with y | y
          · exact h1 (by rw [hc, y])
          · exact h2 (Or.inr ⟨by rw [hc, y.1], y.2⟩)
        unfold pKind
        rw [if_pos ⟨rfl, hk⟩]
        rfl
    · rfl
theorem hQ.mo {h : wH} {t : List Nat} {EE SS : Nat → List Nat} {ft fb fs : Nat → Int32} {ap dp : Nat} {gd : Bool} (a : hQ h t EE SS ft fb fs ap gd dp) : hMO h t EE SS := by
  obtain ⟨⟨wr, fi, a1⟩, a2, a3, a4, a5, a6, a7, a8⟩ := a
  exact ⟨⟨_, _, _, _, _, a1⟩, a2, a3, ⟨_, a4⟩, ⟨_, a5⟩, ⟨_, a6⟩, a7, a8⟩
/-- what value answers -/
def vQ (V : Option (List Nat × List Nat)) (h : wH) (t : List Nat) (EE SS : Nat → List Nat) : Option Value → wH → Prop := fun z h' => wOff h h' 57 11 ∧ ∃ EE' SS' : Nat → List Nat, hMO h' t EE' SS' ∧ (∀ j, j < 3 ∨ j = 11 → EE' j = EE j ∧ SS' j = SS j) ∧ ∃ r : Int32, z = some (.int r) ∧ (V = none → r = -1) ∧ ∀ v, V = some v → ∃ m, (m = 3 ∨ m = 8) ∧ r = nI m ∧ EE' m = v.1 ∧ sR v.2 (SS' m)
theorem pInv_0 (t : List Nat) (B : Nat → Br) : pInv t B 0 0 := ⟨Nat.zero_le _, fun j hj => by omega, Nat.le_refl _, Nat.zero_le _, fun j hj => by omega⟩
theorem pItem_op {t : List Nat} {B : Nat → Br} (h : t[0]? = some 91) (h58 : ¬ t[0 + 1]? = some 58) : pItem t B 0 0 = pOpen t B 0 0 := by
  have h32 : ¬ t[0]? = some 32 := by rw [h]; decide
  have e : pItem t B 0 0 = match pX t (pSp t 0) with | some (some q, w) => pKind t B 0 (pSp t 0) q w | _ => none := rfl
  rw [e, pSp_0 h32, pX_at h, show lxAt t 0 91 = lxOpen t 0 from rfl]
  unfold lxOpen
  by_cases h94 : t[0 + 1]? = some 94
  · rw [if_pos h94]
    dsimp only
    unfold pKind
    rw [if_neg (show ¬ ((0 : Nat) = 0 ∧ ¬ ((5 : Nat) = 4 ∨ (5 : Nat) = 5 ∨ (5 : Nat) = 2 ∨ (5 : Nat) = 3)) by decide), if_neg (show ¬ (5 : Nat) = 1 by decide), if_neg (show ¬ ((5 : Nat) = 2 ∨ (5 : Nat) = 3) by decide), if_pos (Or.inr rfl)]
  · rw [if_neg h94, if_neg h58]
    dsimp only
    unfold pKind
    rw [if_neg (show ¬ ((0 : Nat) = 0 ∧ ¬ ((4 : Nat) = 4 ∨ (4 : Nat) = 5 ∨ (4 : Nat) = 2 ∨ (4 : Nat) = 3)) by decide), if_neg (show ¬ (4 : Nat) = 1 by decide), if_neg (show ¬ ((4 : Nat) = 2 ∨ (4 : Nat) = 3) by decide), if_pos (Or.inl rfl)]
section MO18
variable {X : wX}
set_option maxHeartbeats 4000000 in
set_option maxRecDepth 100000 in
theorem m_MO_valA {h : wH} {t : List Nat} {EE SS : Nat → List Nat} {B : Nat → Br} (hm : hMO h t EE SS) (ht31 : ∀ x ∈ t, x < 1114112) (h11 : EE 11 = [0, 1114112]) (s11 : SS 11 = []) (ha : pA t 0) : PM X M_MO_value 8 0 0 [.ref 57] h (vQ (pVal t B) h t EE SS) := by
  obtain ⟨⟨ap, gd, dp, wr, fi, hx⟩, htx, hE, ⟨ft, h63⟩, ⟨fb, h64⟩, ⟨fs, h65⟩, h66, h67⟩ := id hm
  obtain ⟨tf, tp, t60, thf⟩ := id htx
  refine PM.at (pl := [some (.ref 57), none]) rfl rfl (by simp [wle, wen]) ?_
  generalize hEN : wEm X 0 0 _ = EN
  refine w_aload_n d_MO_value_0 rfl rfl ?_
  refine w_iconst (v := nI 0) d_MO_value_1 (by decide) ?_
  refine w_put d_MO_value_2 f_MO_86 rfl hx rfl rfl rfl ?_
  refine w_nm (fun h1 e1 => ?_)
  have hx_1 := wS_eq e1 hx
  refine w_aload_n d_MO_value_5 rfl rfl ?_
  refine w_iconst (v := nI 1) d_MO_value_6 (by decide) ?_
  refine w_put d_MO_value_7 f_MO_93 rfl hx_1 rfl rfl rfl ?_
  refine w_nm (fun h2 e2 => ?_)
  have hx_2 := wS_eq e2 hx_1
  refine w_aload_n d_MO_value_10 rfl rfl ?_
  refine w_iconst (v := nI 0) d_MO_value_11 (by decide) ?_
  refine w_put d_MO_value_12 f_MO_149 rfl hx_2 rfl rfl rfl ?_
  refine w_nm (fun h3 e3 => ?_)
  have hx_3 := wS_eq e3 hx_2
  refine w_iconst (v := nI 3) d_MO_value_15 (by decide) ?_
  refine w_istore_n d_MO_value_16 (by decide) ?_
  refine w_pl (pl' := [some (.ref 57), some (.int (nI 3))]) rfl ?_
  have K1 : ∀ q, q ≠ 57 → h3[q]? = h[q]? := fun q hq9 => by rw [wS_off e3 (by omega), wS_off e2 (by omega), wS_off e1 (by omega)]
  have tx1 : mT h3 t := htx.keep K1
  have x1 : h3[57]? = some (.inr (7, [.ref 58, .int (nI t.length), .ref 59, .ref 60, .ref 61, .ref 62, .int (nI 0), .int (nI 1), .int (nI 0), .ref 63, .ref 64, .ref 65, .ref 66, .int (wr), .int (fi), .ref 67])) := hx_3
  have hQ1 : hQ h3 t EE SS ft fb fs 0 true 0 := hQ.x x1 tx1 (hE.keep K1) ((K1 63 (by omega)).trans h63) ((K1 64 (by omega)).trans h64) ((K1 65 (by omega)).trans h65) (ex_k h66 (K1 66 (by omega))) (ex_k h67 (K1 67 (by omega)))
  have o1 : wOff h h3 57 11 := fun q hq9 => K1 q (by omega)
  refine w_aload_n d_MO_value_17 rfl rfl ?_
  refine w_iconst (v := nI 0) d_MO_value_18 (by decide) ?_
  refine w_callV (as := [.int (nI 0)]) (st := []) d_MO_value_19 yM_MO_propertyAt l_MO_111 vM_MO_propertyAt hx_3 rfl rfl rfl rfl (m_MO_propAt (k := 0) x1 tx1 ht31 (by omega)) (by decide) (by decide) (by decide) (by decide) (Nat.le_of_ble_eq_true rfl) ?_
  rintro _ h9_4 ⟨rfl, e9_4⟩
  rw [e9_4]
  refine w_eq (st' := [.int (bI (decide (pA t 0)))]) rfl ?_
  refine w_if_eq (tgt := 35) d_MO_value_22 rfl (fun z => absurd z (by rw [decide_eq_true ha]; decide)) (fun _ => ?_)
  refine w_aload_n d_MO_value_25 rfl rfl ?_
  refine w_callV (as := []) (st := []) d_MO_value_26 yM_MO_property l_MO_178 vM_MO_property hx_3 rfl rfl rfl rfl (m_MO_property (p := 0) x1 tx1 ht31 (hE.keep K1) h11 s11 (by omega) ha) (by decide) (by decide) (by decide) (by decide) (Nat.le_of_ble_eq_true rfl) ?_
  rintro _ g2 ⟨rfl, kf, F2, T2, k2, x2, em2, j2, b2, q2⟩
  refine w_eq (st' := []) rfl ?_
  refine w_bipush (v := nI 8) d_MO_value_29 (by decide) ?_
  refine w_istore_n d_MO_value_31 (by decide) ?_
  refine w_pl (pl' := [some (.ref 57), some (.int (nI 8))]) rfl ?_
  refine w_goto (tgt := 75) d_MO_value_32 rfl ?_
  refine w_aload_n d_MO_value_75 rfl rfl ?_
  refine w_get d_MO_value_76 f_MO_93 x2 rfl ?_
  refine w_if_eq (tgt := 97) d_MO_value_79 rfl (fun c79 => ?_) (fun c79 => ?_)
  · have c79 := bI_f c79
    have hv : pVal t B = none := by
      rw [pVal_A ha]
      split
      · rename_i q w z
        rw [z] at c79; cases c79
      · rfl
    refine w_iconst (v := -1) d_MO_value_97 (by decide) ?_
    rw [← hEN]
    refine w_iret d_MO_value_98 rfl ?_
    rw [hv]
    exact ⟨fun q hq9 => (kf q (by omega) (by omega)).trans (K1 q (by omega)), F2, T2, ⟨⟨_, _, _, _, _, x2⟩, tx1.k2 (kf 58 (by omega) (by omega)), em2, ⟨_, (kf 63 (by omega) (by omega)).trans ((K1 63 (by omega)).trans h63)⟩, ⟨_, (kf 64 (by omega) (by omega)).trans ((K1 64 (by omega)).trans h64)⟩, ⟨_, (kf 65 (by omega) (by omega)).trans ((K1 65 (by omega)).trans h65)⟩, ex_k h66 ((kf 66 (by omega) (by omega)).trans (K1 66 (by omega))), ex_k h67 ((kf 67 (by omega) (by omega)).trans (K1 67 (by omega)))⟩, fun q hq9 => j2 q (by omega), _, rfl, fun _ => rfl, fun v hv9 => by cases hv9⟩
  · have c79 := bI_t c79
    obtain ⟨y2, hy2⟩ := Option.isSome_iff_exists.mp c79
    obtain ⟨q, w, hyq⟩ : ∃ q w, y2 = (some q, w) := pX_some ha hy2
    subst hyq
    obtain ⟨e2, f2, s2⟩ := q2 q w hy2
    rw [Nat.zero_add] at e2
    have hv : pVal t B = if w = t.length then some (pTab q, []) else none := by rw [pVal_A ha, hy2]
    refine w_aload_n d_MO_value_82 rfl rfl ?_
    refine w_get d_MO_value_83 f_MO_86 x2 rfl ?_
    refine w_aload_n d_MO_value_86 rfl rfl ?_
    refine w_get d_MO_value_87 f_MO_43 x2 rfl ?_
    refine w_icmp_ne (tgt := 97) d_MO_value_90 rfl (fun c90 => ?_) (fun c90 => ?_)
    · have c90 : ¬ w = t.length := fun z => c90 (by rw [e2, z])
      rw [if_neg c90] at hv
      refine w_iconst (v := -1) d_MO_value_97 (by decide) ?_
      rw [← hEN]
      refine w_iret d_MO_value_98 rfl ?_
      rw [hv]
      exact ⟨fun q hq9 => (kf q (by omega) (by omega)).trans (K1 q (by omega)), F2, T2, ⟨⟨_, _, _, _, _, x2⟩, tx1.k2 (kf 58 (by omega) (by omega)), em2, ⟨_, (kf 63 (by omega) (by omega)).trans ((K1 63 (by omega)).trans h63)⟩, ⟨_, (kf 64 (by omega) (by omega)).trans ((K1 64 (by omega)).trans h64)⟩, ⟨_, (kf 65 (by omega) (by omega)).trans ((K1 65 (by omega)).trans h65)⟩, ex_k h66 ((kf 66 (by omega) (by omega)).trans (K1 66 (by omega))), ex_k h67 ((kf 67 (by omega) (by omega)).trans (K1 67 (by omega)))⟩, fun q hq9 => j2 q (by omega), _, rfl, fun _ => rfl, fun v hv9 => by cases hv9⟩
    · have c90 : w = t.length := e2.symm.trans ((nI_eq (a := k2) (b := t.length) (by omega) (by omega)).mp c90)
      rw [if_pos c90] at hv
      refine w_iload_n d_MO_value_93 rfl ?_
      refine w_goto (tgt := 98) d_MO_value_94 rfl ?_
      rw [← hEN]
      refine w_iret d_MO_value_98 rfl ?_
      rw [hv]
      exact ⟨fun q hq9 => (kf q (by omega) (by omega)).trans (K1 q (by omega)), F2, T2, ⟨⟨_, _, _, _, _, x2⟩, tx1.k2 (kf 58 (by omega) (by omega)), em2, ⟨_, (kf 63 (by omega) (by omega)).trans ((K1 63 (by omega)).trans h63)⟩, ⟨_, (kf 64 (by omega) (by omega)).trans ((K1 64 (by omega)).trans h64)⟩, ⟨_, (kf 65 (by omega) (by omega)).trans ((K1 65 (by omega)).trans h65)⟩, ex_k h66 ((kf 66 (by omega) (by omega)).trans (K1 66 (by omega))), ex_k h67 ((kf 67 (by omega) (by omega)).trans (K1 67 (by omega)))⟩, fun q hq9 => j2 q (by omega), _, rfl, fun z => (by cases z), fun v hv9 => by cases hv9; exact ⟨8, Or.inr rfl, rfl, f2, by rw [s2]; exact sR_nil⟩⟩
set_option maxHeartbeats 4000000 in
set_option maxRecDepth 100000 in
theorem m_MO_valC {h : wH} {t : List Nat} {EE SS : Nat → List Nat} {B : Nat → Br} (hm : hMO h t EE SS) (ht31 : ∀ x ∈ t, x < 1114112) (h11 : EE 11 = [0, 1114112]) (s11 : SS 11 = []) (ha : ¬ pA t 0) (hc : ¬ t[0]? = some 91) : PM X M_MO_value 8 0 0 [.ref 57] h (vQ (pVal t B) h t EE SS) := by
  obtain ⟨⟨ap, gd, dp, wr, fi, hx⟩, htx, hE, ⟨ft, h63⟩, ⟨fb, h64⟩, ⟨fs, h65⟩, h66, h67⟩ := id hm
  obtain ⟨tf, tp, t60, thf⟩ := id htx
  refine PM.at (pl := [some (.ref 57), none]) rfl rfl (by simp [wle, wen]) ?_
  generalize hEN : wEm X 0 0 _ = EN
  refine w_aload_n d_MO_value_0 rfl rfl ?_
  refine w_iconst (v := nI 0) d_MO_value_1 (by decide) ?_
  refine w_put d_MO_value_2 f_MO_86 rfl hx rfl rfl rfl ?_
  refine w_nm (fun h1 e1 => ?_)
  have hx_1 := wS_eq e1 hx
  refine w_aload_n d_MO_value_5 rfl rfl ?_
  refine w_iconst (v := nI 1) d_MO_value_6 (by decide) ?_
  refine w_put d_MO_value_7 f_MO_93 rfl hx_1 rfl rfl rfl ?_
  refine w_nm (fun h2 e2 => ?_)
  have hx_2 := wS_eq e2 hx_1
  refine w_aload_n d_MO_value_10 rfl rfl ?_
  refine w_iconst (v := nI 0) d_MO_value_11 (by decide) ?_
  refine w_put d_MO_value_12 f_MO_149 rfl hx_2 rfl rfl rfl ?_
  refine w_nm (fun h3 e3 => ?_)
  have hx_3 := wS_eq e3 hx_2
  refine w_iconst (v := nI 3) d_MO_value_15 (by decide) ?_
  refine w_istore_n d_MO_value_16 (by decide) ?_
  refine w_pl (pl' := [some (.ref 57), some (.int (nI 3))]) rfl ?_
  have K1 : ∀ q, q ≠ 57 → h3[q]? = h[q]? := fun q hq9 => by rw [wS_off e3 (by omega), wS_off e2 (by omega), wS_off e1 (by omega)]
  have tx1 : mT h3 t := htx.keep K1
  have x1 : h3[57]? = some (.inr (7, [.ref 58, .int (nI t.length), .ref 59, .ref 60, .ref 61, .ref 62, .int (nI 0), .int (nI 1), .int (nI 0), .ref 63, .ref 64, .ref 65, .ref 66, .int (wr), .int (fi), .ref 67])) := hx_3
  have hQ1 : hQ h3 t EE SS ft fb fs 0 true 0 := hQ.x x1 tx1 (hE.keep K1) ((K1 63 (by omega)).trans h63) ((K1 64 (by omega)).trans h64) ((K1 65 (by omega)).trans h65) (ex_k h66 (K1 66 (by omega))) (ex_k h67 (K1 67 (by omega)))
  have o1 : wOff h h3 57 11 := fun q hq9 => K1 q (by omega)
  refine w_aload_n d_MO_value_17 rfl rfl ?_
  refine w_iconst (v := nI 0) d_MO_value_18 (by decide) ?_
  refine w_callV (as := [.int (nI 0)]) (st := []) d_MO_value_19 yM_MO_propertyAt l_MO_111 vM_MO_propertyAt hx_3 rfl rfl rfl rfl (m_MO_propAt (k := 0) x1 tx1 ht31 (by omega)) (by decide) (by decide) (by decide) (by decide) (Nat.le_of_ble_eq_true rfl) ?_
  rintro _ h9_4 ⟨rfl, e9_4⟩
  rw [e9_4]
  refine w_eq (st' := [.int (bI (decide (pA t 0)))]) rfl ?_
  refine w_if_eq (tgt := 35) d_MO_value_22 rfl (fun _ => ?_) (fun z => absurd (by rw [decide_eq_false ha]; rfl) z)
  refine w_aload_n d_MO_value_35 rfl rfl ?_
  refine w_iconst (v := nI 0) d_MO_value_36 (by decide) ?_
  refine w_bipush (v := nI 91) d_MO_value_37 (by decide) ?_
  refine w_callV (as := [.int (nI 0), .int (nI 91)]) (st := []) d_MO_value_39 yM_MO_is l_MO_83 vM_MO_is hx_3 rfl rfl rfl rfl (m_MO_is (k := 0) x1 tx1 ht31 (by omega) (by decide)) (by decide) (by decide) (by decide) (by decide) (Nat.le_of_ble_eq_true rfl) ?_
  rintro _ h9_5 ⟨rfl, e9_5⟩
  rw [e9_5]
  refine w_eq (st' := [.int (bI (decide (t[0]? = some 91)))]) rfl ?_
  refine w_if_eq (tgt := 70) d_MO_value_42 rfl (fun _ => ?_) (fun z => absurd (by rw [decide_eq_false hc]; rfl) z)
  refine w_aload_n d_MO_value_70 rfl rfl ?_
  refine w_iconst (v := nI 0) d_MO_value_71 (by decide) ?_
  refine w_put d_MO_value_72 f_MO_93 rfl hx_3 rfl rfl rfl ?_
  refine w_nm (fun h6 e6 => ?_)
  have hx_6 := wS_eq e6 hx_3
  refine w_aload_n d_MO_value_75 rfl rfl ?_
  refine w_get d_MO_value_76 f_MO_93 hx_6 rfl ?_
  refine w_if_eq (tgt := 97) d_MO_value_79 rfl (fun _ => ?_) (fun z => absurd (by decide) z)
  refine w_iconst (v := -1) d_MO_value_97 (by decide) ?_
  rw [← hEN]
  refine w_iret d_MO_value_98 rfl ?_
  rw [pVal_C hc ha]
  have K9 : ∀ q, q ≠ 57 → h6[q]? = h[q]? := fun q hq9 => by rw [wS_off e6 (by omega), wS_off e3 (by omega), wS_off e2 (by omega), wS_off e1 (by omega)]
  exact ⟨fun q hq9 => K9 q (by omega), EE, SS, ⟨⟨_, _, _, _, _, hx_6⟩, htx.keep K9, hE.keep K9, ⟨_, (K9 63 (by omega)).trans h63⟩, ⟨_, (K9 64 (by omega)).trans h64⟩, ⟨_, (K9 65 (by omega)).trans h65⟩, ex_k h66 (K9 66 (by omega)), ex_k h67 (K9 67 (by omega))⟩, fun _ _ => ⟨rfl, rfl⟩, _, rfl, fun _ => rfl, fun v hv9 => by cases hv9⟩
set_option maxHeartbeats 4000000 in
set_option maxRecDepth 100000 in
theorem m_MO_valB {h : wH} {t : List Nat} {EE SS : Nat → List Nat} {B : Nat → Br} (hm : hMO h t EE SS) (ht31 : ∀ x ∈ t, x < 1114112) (h11 : EE 11 = [0, 1114112]) (s11 : SS 11 = []) (ha : ¬ pA t 0) (hc : t[0]? = some 91) : PM X M_MO_value 8 0 0 [.ref 57] h (vQ (pVal t B) h t EE SS) := by
  obtain ⟨⟨ap, gd, dp, wr, fi, hx⟩, htx, hE, ⟨ft, h63⟩, ⟨fb, h64⟩, ⟨fs, h65⟩, h66, h67⟩ := id hm
  obtain ⟨tf, tp, t60, thf⟩ := id htx
  obtain ⟨R, hR0⟩ : ∃ R, R = pVal t B := ⟨_, rfl⟩
  rw [← hR0]
  refine PM.at (pl := [some (.ref 57), none]) rfl rfl (by simp [wle, wen]) ?_
  generalize hEN : wEm X 0 0 _ = EN
  have L : ∀ (n : Nat) (x : Option rS) (m : Nat) (h3 : wH) (F T : Nat → List Nat) (ft1 fb1 fs1 : Nat → Int32) (ap dp : Nat), ((if x.isSome = true then t.length - ap + 1 else 0) < n) → (hQ h3 t F T ft1 fb1 fs1 ap x.isSome dp) → (wOff h h3 57 11) → (∀ j, j < 3 ∨ j = 11 → F j = EE j ∧ T j = SS j) → (∀ B1 d1 k V1, x = some (B1, d1, k, V1) → ap = k ∧ dp = d1 ∧ Rl B1 d1 F T ft1 fb1 fs1 ∧ (d1 = 0 → F 3 = V1.1 ∧ sR V1.2 (T 3)) ∧ pInv t B1 d1 k ∧ 61 ≤ m + k) → (R = RX t m x) → WP X M_MO_value (wR 8 0 0) 0 EN 0 0 49 [some (.ref 57), some (.int (nI 3))] [] h3 := by
    intro n
    induction n with
    | zero => intro x m h3 F T ft1 fb1 fs1 ap dp k1 k3 k4 k5 k6 k7; omega
    | succ n ih =>
      intro x m h3 F T ft1 fb1 fs1 ap dp k1 k3 k4 k5 k6 k7
      obtain ⟨wr3, fi3, x3⟩ := k3.1
      refine w_aload_n d_MO_value_49 rfl rfl ?_
      refine w_get d_MO_value_50 f_MO_93 x3 rfl ?_
      refine w_if_eq (tgt := 75) d_MO_value_53 rfl (fun c53 => ?_) (fun c53 => ?_)
      · have c53 := bI_f c53
        have hxn : x = none := by cases hz : x with | none => rfl | some q => rw [hz] at c53; cases c53
        refine w_aload_n d_MO_value_75 rfl rfl ?_
        refine w_get d_MO_value_76 f_MO_93 x3 rfl ?_
        refine w_if_eq (tgt := 97) d_MO_value_79 rfl (fun _ => ?_) (fun z => absurd (by rw [hxn]; rfl) z)
        refine w_iconst (v := -1) d_MO_value_97 (by decide) ?_
        rw [← hEN]
        refine w_iret d_MO_value_98 rfl ?_
        rw [k7, hxn]
        exact ⟨k4, F, T, hQ.mo k3, k5, _, rfl, fun _ => rfl, fun v hv9 => by cases hv9⟩
      · have c53 := bI_t c53
        obtain ⟨q, hq⟩ := Option.isSome_iff_exists.mp c53
        obtain ⟨B1, d1, kk, V1⟩ := q
        subst hq
        obtain ⟨e1, e2, e3, e4, e5, e6⟩ := k6 _ _ _ _ rfl
        subst e1
        subst e2
        refine w_aload_n d_MO_value_56 rfl rfl ?_
        refine w_get d_MO_value_57 f_MO_149 x3 rfl ?_
        refine w_if_le (tgt := 75) d_MO_value_60 rfl (fun c60 => ?_) (fun c60 => ?_)
        · have c60 : dp = 0 := by have := (nI_leI (a := dp) (b := 0) (by have := e5.1; omega) (by decide)).mp c60; omega
          have hV := e4 c60
          have k7 : R = if ap = t.length then some V1 else none := by rw [k7]; unfold RX; dsimp only; rw [if_pos c60]
          refine w_aload_n d_MO_value_75 rfl rfl ?_
          refine w_get d_MO_value_76 f_MO_93 x3 rfl ?_
          refine w_if_eq (tgt := 97) d_MO_value_79 rfl (fun z => absurd z (show ¬ nI 1 = 0 by decide)) (fun _ => ?_)
          refine w_aload_n d_MO_value_82 rfl rfl ?_
          refine w_get d_MO_value_83 f_MO_86 x3 rfl ?_
          refine w_aload_n d_MO_value_86 rfl rfl ?_
          refine w_get d_MO_value_87 f_MO_43 x3 rfl ?_
          refine w_icmp_ne (tgt := 97) d_MO_value_90 rfl (fun c90 => ?_) (fun c90 => ?_)
          · have c90 : ¬ ap = t.length := fun z => c90 (by rw [z])
            rw [if_neg c90] at k7
            refine w_iconst (v := -1) d_MO_value_97 (by decide) ?_
            rw [← hEN]
            refine w_iret d_MO_value_98 rfl ?_
            rw [k7]
            exact ⟨k4, F, T, hQ.mo k3, k5, _, rfl, fun _ => rfl, fun v hv9 => by cases hv9⟩
          · have c90 : ap = t.length := (nI_eq (a := ap) (b := t.length) (by have := e5.2.2.2.1; omega) (by omega)).mp c90
            rw [if_pos c90] at k7
            refine w_iload_n d_MO_value_93 rfl ?_
            refine w_goto (tgt := 98) d_MO_value_94 rfl ?_
            rw [← hEN]
            refine w_iret d_MO_value_98 rfl ?_
            rw [k7]
            exact ⟨k4, F, T, hQ.mo k3, k5, _, rfl, fun z => (by cases z), fun v hv9 => by cases hv9; exact ⟨3, Or.inl rfl, rfl, hV.1, hV.2⟩⟩
        · obtain ⟨j, hj⟩ : ∃ j, dp = j + 1 := ⟨dp - 1, by have : ¬ dp = 0 := fun z => c60 (by rw [z]; decide); omega⟩
          subst hj
          obtain ⟨m1, hm1⟩ : ∃ m1, m = m1 + 1 := ⟨m - 1, by have := e5.2.2.2.1; omega⟩
          subst hm1
          have k7 : R = RX t m1 (pItem t B1 (j + 1) ap) := by rw [k7]; unfold RX; dsimp only; rw [if_neg (by omega), pLoop_S]; rfl
          refine w_aload_n d_MO_value_63 rfl rfl ?_
          refine w_callV (as := []) (st := []) d_MO_value_64 yM_MO_item l_MO_193 vM_MO_item x3 rfl rfl rfl rfl (m_MO_item k3 e3 e5 ht31 (by rw [(k5 11 (Or.inr rfl)).1]; exact h11) (by rw [(k5 11 (Or.inr rfl)).2]; exact s11)) (by decide) (by decide) (by decide) (by decide) (Nat.le_of_ble_eq_true rfl) ?_
          rintro _ g9 ⟨rfl, o9, F9, T9, ft9, fb9, fs9, ap9, dp9, hq9, j9, r9⟩
          refine w_eq (st' := []) rfl ?_
          refine w_goto (tgt := 49) d_MO_value_67 rfl ?_
          have k1 : t.length - ap + 1 < n + 1 := k1
          refine ih (pItem t B1 (j + 1) ap) m1 g9 F9 T9 ft9 fb9 fs9 ap9 dp9 ?_ hq9 (k4.tr o9) (fun q hq => ⟨(j9 q hq).1.trans (k5 q hq).1, (j9 q hq).2.trans (k5 q hq).2⟩) (fun B2 d2 kk2 V2 hz => ?_) k7
          · cases hz : pItem t B1 (j + 1) ap with
            | none => rw [if_neg (show ¬ (none : Option rS).isSome = true by decide)]; omega
            | some q =>
              obtain ⟨B2, d2, kk2, V2⟩ := q
              have hv := pItem_inv ht31 e5 hz
              have hr := r9 _ _ _ _ hz
              have := hv.1.2.2.2.1
              show t.length - ap9 + 1 < n
              omega
          · have hv := pItem_inv ht31 e5 hz
            have hr := r9 _ _ _ _ hz
            exact ⟨hr.1, hr.2.1, hr.2.2.1, hr.2.2.2, hv.1, by omega⟩
  refine w_aload_n d_MO_value_0 rfl rfl ?_
  refine w_iconst (v := nI 0) d_MO_value_1 (by decide) ?_
  refine w_put d_MO_value_2 f_MO_86 rfl hx rfl rfl rfl ?_
  refine w_nm (fun h1 e1 => ?_)
  have hx_1 := wS_eq e1 hx
  refine w_aload_n d_MO_value_5 rfl rfl ?_
  refine w_iconst (v := nI 1) d_MO_value_6 (by decide) ?_
  refine w_put d_MO_value_7 f_MO_93 rfl hx_1 rfl rfl rfl ?_
  refine w_nm (fun h2 e2 => ?_)
  have hx_2 := wS_eq e2 hx_1
  refine w_aload_n d_MO_value_10 rfl rfl ?_
  refine w_iconst (v := nI 0) d_MO_value_11 (by decide) ?_
  refine w_put d_MO_value_12 f_MO_149 rfl hx_2 rfl rfl rfl ?_
  refine w_nm (fun h3 e3 => ?_)
  have hx_3 := wS_eq e3 hx_2
  refine w_iconst (v := nI 3) d_MO_value_15 (by decide) ?_
  refine w_istore_n d_MO_value_16 (by decide) ?_
  refine w_pl (pl' := [some (.ref 57), some (.int (nI 3))]) rfl ?_
  have K1 : ∀ q, q ≠ 57 → h3[q]? = h[q]? := fun q hq9 => by rw [wS_off e3 (by omega), wS_off e2 (by omega), wS_off e1 (by omega)]
  have tx1 : mT h3 t := htx.keep K1
  have x1 : h3[57]? = some (.inr (7, [.ref 58, .int (nI t.length), .ref 59, .ref 60, .ref 61, .ref 62, .int (nI 0), .int (nI 1), .int (nI 0), .ref 63, .ref 64, .ref 65, .ref 66, .int (wr), .int (fi), .ref 67])) := hx_3
  have hQ1 : hQ h3 t EE SS ft fb fs 0 true 0 := hQ.x x1 tx1 (hE.keep K1) ((K1 63 (by omega)).trans h63) ((K1 64 (by omega)).trans h64) ((K1 65 (by omega)).trans h65) (ex_k h66 (K1 66 (by omega))) (ex_k h67 (K1 67 (by omega)))
  have o1 : wOff h h3 57 11 := fun q hq9 => K1 q (by omega)
  refine w_aload_n d_MO_value_17 rfl rfl ?_
  refine w_iconst (v := nI 0) d_MO_value_18 (by decide) ?_
  refine w_callV (as := [.int (nI 0)]) (st := []) d_MO_value_19 yM_MO_propertyAt l_MO_111 vM_MO_propertyAt hx_3 rfl rfl rfl rfl (m_MO_propAt (k := 0) x1 tx1 ht31 (by omega)) (by decide) (by decide) (by decide) (by decide) (Nat.le_of_ble_eq_true rfl) ?_
  rintro _ h9_4 ⟨rfl, e9_4⟩
  rw [e9_4]
  refine w_eq (st' := [.int (bI (decide (pA t 0)))]) rfl ?_
  refine w_if_eq (tgt := 35) d_MO_value_22 rfl (fun _ => ?_) (fun z => absurd (by rw [decide_eq_false ha]; rfl) z)
  refine w_aload_n d_MO_value_35 rfl rfl ?_
  refine w_iconst (v := nI 0) d_MO_value_36 (by decide) ?_
  refine w_bipush (v := nI 91) d_MO_value_37 (by decide) ?_
  refine w_callV (as := [.int (nI 0), .int (nI 91)]) (st := []) d_MO_value_39 yM_MO_is l_MO_83 vM_MO_is hx_3 rfl rfl rfl rfl (m_MO_is (k := 0) x1 tx1 ht31 (by omega) (by decide)) (by decide) (by decide) (by decide) (by decide) (Nat.le_of_ble_eq_true rfl) ?_
  rintro _ h9_5 ⟨rfl, e9_5⟩
  rw [e9_5]
  refine w_eq (st' := [.int (bI (decide (t[0]? = some 91)))]) rfl ?_
  refine w_if_eq (tgt := 70) d_MO_value_42 rfl (fun z => absurd z (by rw [decide_eq_true hc]; decide)) (fun _ => ?_)
  refine w_aload_n d_MO_value_45 rfl rfl ?_
  refine w_callV (as := []) (st := []) d_MO_value_46 yM_MO_open l_MO_181 vM_MO_open hx_3 rfl rfl rfl rfl (m_MO_open (B := B) hQ1 (by omega) (fun k hk => by omega) ht31 (by omega)) (by decide) (by decide) (by decide) (by decide) (Nat.le_of_ble_eq_true rfl) ?_
  rintro _ g9 ⟨rfl, o9, F9, T9, ft9, fb9, fs9, ap9, dp9, hq9, j9, r9⟩
  refine w_eq (st' := []) rfl ?_
  refine L (t.length + 3) (pOpen t B 0 0) 60 g9 F9 T9 ft9 fb9 fs9 ap9 dp9 ?_ hq9 (o1.tr o9) j9 (fun B2 d2 kk2 V2 hz => ?_) (by rw [hR0]; exact pVal_B hc ha)
  · split <;> omega
  · have hr := r9 _ _ _ _ hz
    have hit : pItem t B 0 0 = pOpen t B 0 0 := by
      have h32 : ¬ t[0]? = some 32 := by rw [hc]; decide
      have h58 : ¬ t[0 + 1]? = some 58 := fun z => ha (Or.inl ⟨hc, z⟩)
      exact pItem_op hc h58
    have hv := pItem_inv ht31 (pInv_0 t B) (hit.trans hz)
    exact ⟨hr.1, hr.2.1, hr.2.2.1, hr.2.2.2, hv.1, by omega⟩
theorem m_MO_value {h : wH} {t : List Nat} {EE SS : Nat → List Nat} {B : Nat → Br} (hm : hMO h t EE SS) (ht31 : ∀ x ∈ t, x < 1114112) (h11 : EE 11 = [0, 1114112]) (s11 : SS 11 = []) : PM X M_MO_value 8 0 0 [.ref 57] h (vQ (pVal t B) h t EE SS) := by
  by_cases ha : pA t 0
  · exact m_MO_valA hm ht31 h11 s11 ha
  · by_cases hc : t[0]? = some 91
    · exact m_MO_valB hm ht31 h11 s11 ha hc
    · exact m_MO_valC hm ht31 h11 s11 ha hc
set_option maxHeartbeats 4000000 in
set_option maxRecDepth 100000 in
theorem m_MO_applyN {h : wH} {t : List Nat} {EE SS : Nat → List Nat} {B : Nat → Br} (hm : hMO h t EE SS) (ht31 : ∀ x ∈ t, x < 1114112) (h11 : EE 11 = [0, 1114112]) (s11 : SS 11 = []) {r : Nat} (hr : r < 3) (hv : pVal t B = none) : PM X M_MO_apply 9 0 0 [.ref 57, .int (nI r)] h (fun z h' => z = some (.int (bI (pVal t B).isSome)) ∧ wOff h h' 57 11 ∧ ∃ EE' SS' : Nat → List Nat, hMO h' t EE' SS' ∧ (∀ j, j ≠ r → (j < 3 ∨ j = 11) → EE' j = EE j ∧ SS' j = SS j) ∧ (pVal t B = none → EE' r = EE r ∧ SS' r = SS r) ∧ ∀ v, pVal t B = some v → EE' r = v.1 ∧ sR v.2 (SS' r)) := by
  obtain ⟨⟨ap0, gd0, dp0, wr0, fi0, hx⟩, htx, hE, hA⟩ := id hm
  refine PM.at (pl := [some (.ref 57), some (.int (nI r)), none]) rfl rfl (by simp [wle, wen]) ?_
  generalize hEN : wEm X 0 0 _ = EN
  refine w_iload_n d_MO_apply_0 rfl ?_
  refine w_callS (as := [.int (nI r)]) (st := []) d_MO_apply_1 yM_MO_register l_MO_196 sM_MO_register rfl rfl (m_MO_regG hr) (by decide) (by decide) (by decide) (by decide) (Nat.le_of_ble_eq_true rfl) ?_
  rintro _ h9_1 ⟨rfl, e9_1⟩
  rw [e9_1]
  refine w_eq (st' := [.int (nI 1)]) rfl ?_
  refine w_if_ne (tgt := 9) d_MO_apply_4 rfl (fun _ => ?_) (fun z => absurd z (by decide))
  refine w_aload_n d_MO_apply_9 rfl rfl ?_
  refine w_callV (as := []) (st := []) d_MO_apply_10 yM_MO_value l_MO_199 vM_MO_value hx rfl rfl rfl rfl (m_MO_value (B := B) hm ht31 h11 s11) (by decide) (by decide) (by decide) (by decide) (Nat.le_of_ble_eq_true rfl) ?_
  rintro _ g1 ⟨o1, F1, T1, mo1, j1, r1, rfl, n1, y1⟩
  refine w_eq (st' := [.int (r1)]) rfl ?_
  obtain ⟨⟨ap, gd, dp, wr, fi, x1⟩, tx1, em1, mA1⟩ := id mo1
  have e1 := n1 hv
  refine w_istore_n d_MO_apply_13 (by decide) ?_
  refine w_pl (pl' := [some (.ref 57), some (.int (nI r)), some (.int (r1))]) rfl ?_
  refine w_iload_n d_MO_apply_14 rfl ?_
  refine w_if_ge (tgt := 20) d_MO_apply_15 rfl (fun z => absurd z (by rw [e1]; decide)) (fun _ => ?_)
  refine w_iconst (v := nI 0) d_MO_apply_18 (by decide) ?_
  rw [← hEN]
  refine w_zret d_MO_apply_19 rfl (by first | exact Or.inl rfl | exact Or.inr rfl) ?_
  rw [hv]
  exact ⟨rfl, o1, F1, T1, mo1, fun q _ hq => j1 q hq, fun _ => j1 r (Or.inl hr), fun v hv9 => by cases hv9⟩
set_option maxHeartbeats 4000000 in
set_option maxRecDepth 100000 in
theorem m_MO_applyY {h : wH} {t : List Nat} {EE SS : Nat → List Nat} {B : Nat → Br} (hm : hMO h t EE SS) (ht31 : ∀ x ∈ t, x < 1114112) (h11 : EE 11 = [0, 1114112]) (s11 : SS 11 = []) {r : Nat} (hr : r < 3) {v : List Nat × List Nat} (hv : pVal t B = some v) : PM X M_MO_apply 9 0 0 [.ref 57, .int (nI r)] h (fun z h' => z = some (.int (bI (pVal t B).isSome)) ∧ wOff h h' 57 11 ∧ ∃ EE' SS' : Nat → List Nat, hMO h' t EE' SS' ∧ (∀ j, j ≠ r → (j < 3 ∨ j = 11) → EE' j = EE j ∧ SS' j = SS j) ∧ (pVal t B = none → EE' r = EE r ∧ SS' r = SS r) ∧ ∀ v, pVal t B = some v → EE' r = v.1 ∧ sR v.2 (SS' r)) := by
  obtain ⟨⟨ap0, gd0, dp0, wr0, fi0, hx⟩, htx, hE, hA⟩ := id hm
  refine PM.at (pl := [some (.ref 57), some (.int (nI r)), none]) rfl rfl (by simp [wle, wen]) ?_
  generalize hEN : wEm X 0 0 _ = EN
  refine w_iload_n d_MO_apply_0 rfl ?_
  refine w_callS (as := [.int (nI r)]) (st := []) d_MO_apply_1 yM_MO_register l_MO_196 sM_MO_register rfl rfl (m_MO_regG hr) (by decide) (by decide) (by decide) (by decide) (Nat.le_of_ble_eq_true rfl) ?_
  rintro _ h9_1 ⟨rfl, e9_1⟩
  rw [e9_1]
  refine w_eq (st' := [.int (nI 1)]) rfl ?_
  refine w_if_ne (tgt := 9) d_MO_apply_4 rfl (fun _ => ?_) (fun z => absurd z (by decide))
  refine w_aload_n d_MO_apply_9 rfl rfl ?_
  refine w_callV (as := []) (st := []) d_MO_apply_10 yM_MO_value l_MO_199 vM_MO_value hx rfl rfl rfl rfl (m_MO_value (B := B) hm ht31 h11 s11) (by decide) (by decide) (by decide) (by decide) (Nat.le_of_ble_eq_true rfl) ?_
  rintro _ g1 ⟨o1, F1, T1, mo1, j1, r1, rfl, n1, y1⟩
  refine w_eq (st' := [.int (r1)]) rfl ?_
  obtain ⟨⟨ap, gd, dp, wr, fi, x1⟩, tx1, em1, mA1⟩ := id mo1
  obtain ⟨m, hm3, e1, f1, s1⟩ := y1 v hv
  have hm12 : m < 12 ∧ m ≠ r := by omega
  refine w_istore_n d_MO_apply_13 (by decide) ?_
  refine w_pl (pl' := [some (.ref 57), some (.int (nI r)), some (.int (r1))]) rfl ?_
  refine w_iload_n d_MO_apply_14 rfl ?_
  refine w_if_ge (tgt := 20) d_MO_apply_15 rfl (fun _ => ?_) (fun z => absurd (by rw [e1]; exact nI_pos' (by omega)) z)
  refine w_aload_n d_MO_apply_20 rfl rfl ?_
  refine w_iload_n d_MO_apply_21 rfl ?_
  refine w_topi (y := nI m) e1 ?_
  refine w_iload_n d_MO_apply_22 rfl ?_
  refine w_callV (as := [.int (nI m), .int (nI r)]) (st := []) d_MO_apply_23 yM_MO_copy l_MO_76 vM_MO_copy x1 rfl rfl rfl rfl (m_MO_copy (f := m) (t := r) x1 em1 hm12.1 (by omega) hm12.2) (by decide) (by decide) (by decide) (by decide) (Nat.le_of_ble_eq_true rfl) ?_
  rintro _ g2 ⟨rfl, em2, o2⟩
  refine w_eq (st' := []) rfl ?_
  refine w_iconst (v := nI 1) d_MO_apply_26 (by decide) ?_
  rw [← hEN]
  refine w_zret d_MO_apply_27 rfl (by first | exact Or.inl rfl | exact Or.inr rfl) ?_
  rw [hv]
  refine ⟨rfl, o1.tr (o2.wide (by omega) (by omega)), _, _, mo1.sets em2 o2, fun q h8 h9 => ?_, fun z => (by cases z), fun v9 hv9 => ?_⟩
  · rw [va_up_ne _ _ h8, va_up_ne _ _ h8]; exact j1 q h9
  · cases hv9
    rw [va_up_self, va_up_self]
    exact ⟨f1, s1⟩
theorem m_MO_applyG {h : wH} {t : List Nat} {EE SS : Nat → List Nat} {B : Nat → Br} (hm : hMO h t EE SS) (ht31 : ∀ x ∈ t, x < 1114112) (h11 : EE 11 = [0, 1114112]) (s11 : SS 11 = []) {r : Nat} (hr : r < 3) : PM X M_MO_apply 9 0 0 [.ref 57, .int (nI r)] h (fun z h' => z = some (.int (bI (pVal t B).isSome)) ∧ wOff h h' 57 11 ∧ ∃ EE' SS' : Nat → List Nat, hMO h' t EE' SS' ∧ (∀ j, j ≠ r → (j < 3 ∨ j = 11) → EE' j = EE j ∧ SS' j = SS j) ∧ (pVal t B = none → EE' r = EE r ∧ SS' r = SS r) ∧ ∀ v, pVal t B = some v → EE' r = v.1 ∧ sR v.2 (SS' r)) := by
  rcases Option.eq_none_or_eq_some (pVal t B) with hv | ⟨v, hv⟩
  · exact m_MO_applyN hm ht31 h11 s11 hr hv
  · exact m_MO_applyY hm ht31 h11 s11 hr hv
set_option maxHeartbeats 4000000 in
set_option maxRecDepth 100000 in
theorem m_MO_applyB {h : wH} {x r0 : Int32} {t : List Nat} {EE SS : Nat → List Nat} (hm : hMO h t EE SS) (hxr : ¬ (0 ≤ x ∧ x < nI 3)) : PM X M_MO_apply 9 0 0 [.ref 57, .int (x)] h (fun z h' => z = some (.int (bI false)) ∧ h' = h) := by
  refine PM.at (pl := [some (.ref 57), some (.int (x)), none]) rfl rfl (by simp [wle, wen]) ?_
  generalize hEN : wEm X 0 0 _ = EN
  refine w_iload_n d_MO_apply_0 rfl ?_
  refine w_callS (as := [.int (x)]) (st := []) d_MO_apply_1 yM_MO_register l_MO_196 sM_MO_register rfl rfl (m_MO_regB hxr) (by decide) (by decide) (by decide) (by decide) (Nat.le_of_ble_eq_true rfl) ?_
  rintro _ h9_1 ⟨rfl, e9_1⟩
  rw [e9_1]
  refine w_eq (st' := [.int (nI 0)]) rfl ?_
  refine w_if_ne (tgt := 9) d_MO_apply_4 rfl (fun z => absurd (by decide) z) (fun _ => ?_)
  refine w_iconst (v := nI 0) d_MO_apply_7 (by decide) ?_
  rw [← hEN]
  refine w_zret d_MO_apply_8 rfl (by first | exact Or.inl rfl | exact Or.inr rfl) ?_
  exact ⟨rfl, rfl⟩
end MO18
