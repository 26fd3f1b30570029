/-! the reference's constructor: written by wip/gen/init2.py -/
def mE0 : Nat → List Nat := fun j => if j = 11 then [0, 1114112] else []
def mS0 : Nat → List Nat := fun _ => []
theorem mE_0 {ef cf nf : Nat → Int32} {sf : Nat → Int64} (h1 : ef = upd (fun _ => 0) 4621 (nI 1114112)) (h2 : cf = upd (fun _ => 0) 11 (nI 2)) (h3 : sf = fun _ => 0) (h4 : nf = fun _ => 0) : ∀ j, j < 12 → mS ef cf sf nf j (mE0 j) (mS0 j) := by
  subst h1 h2 h3 h4
  intro j hj
  unfold mE0 mS0
  by_cases h : j = 11
  · subst h
    rw [if_pos rfl]
    refine ⟨by rw [upd_eq]; rfl, rfl, by decide, by decide, fun i x hx => ?_, fun i x hx => by cases hx⟩
    rcases i with _ | _ | i
    · cases hx
      rw [upd_ne (by omega)]
      rfl
    · cases hx
      exact upd_eq
    · exact absurd (List.getElem?_eq_some_iff.mp hx).1 (by simp)
  · rw [if_neg h]
    exact ⟨by rw [upd_ne h]; rfl, rfl, Nat.zero_le _, Nat.zero_le _, (fun i x hx => by cases hx), fun i x hx => by cases hx⟩
section IN2
variable {X : wX}
set_option maxHeartbeats 4000000 in
set_option maxRecDepth 100000 in
theorem m_MO_init {h : wH} (hl : h.length = 58) (hc : h[57]? = some (.inr (7, [.null, .int (nI 0), .null, .null, .null, .null, .int (nI 0), .int (nI 0), .int (nI 0), .null, .null, .null, .null, .int (nI 0), .int (nI 0), .null]))) : PM X M_MO_init 1 10 5503 [.ref 57] h (fun z h' => z = none ∧ h'.length = 68 ∧ hMO h' [] mE0 mS0 ∧ ∀ j, j < 57 → h'[j]? = h[j]?) := by
  refine PM.at (pl := [some (.ref 57)]) rfl rfl (by simp [wle, wen]) ?_
  generalize hEN : wEm X 10 5503 _ = EN
  have fr0 : ∀ j, j < 57 → h[j]? = h[j]? := fun _ _ => rfl
  refine w_aload_n d_MO_init_0 rfl rfl ?_
  refine w_objInit d_MO_init_1 o_MO_1 oInit1 oInit2 (by decide) (by decide) (Nat.le_of_ble_eq_true rfl) ?_
  refine w_aload_n d_MO_init_4 rfl rfl ?_
  refine w_bipush (v := nI 60) d_MO_init_5 (by decide) ?_
  refine w_newI (N := 60) d_MO_init_7 wArrI (by decide) (by decide) (by decide) (by decide) (by decide) ?_
  refine w_nm (fun h1 e1 => ?_)
  refine w_eq (nc' := 1) (u' := 60) (st' := [.ref 58, .ref 57]) (by rw [hl]) ?_
  have hc_1 := wP_old e1 hc
  have c1 := wP_new e1 hl
  have fr1 : ∀ j, j < 57 → h1[j]? = h[j]? := fun j z1 => (wP_off e1 hl (by omega)).trans (fr0 j z1)
  have hl1 : h1.length = 59 := by have z9 := wP_len e1 hl; omega
  refine w_put d_MO_init_9 f_MO_7 rfl hc_1 rfl rfl rfl ?_
  refine w_nm (fun h2 e2 => ?_)
  have hc_2 := wS_eq e2 hc_1
  have c1_2 := wS_ne e2 (by omega) c1
  have hl2 := wS_len e2 hl1
  have fr2 : ∀ j, j < 57 → h2[j]? = h[j]? := fun j z1 => (wS_off e2 (by omega)).trans (fr1 j z1)
  refine w_aload_n d_MO_init_12 rfl rfl ?_
  refine w_sipush (v := nI 5040) d_MO_init_13 (by decide) ?_
  refine w_newI (N := 5040) d_MO_init_16 wArrI (by decide) (by decide) (by decide) (by decide) (by decide) ?_
  refine w_nm (fun h3 e3 => ?_)
  refine w_eq (nc' := 2) (u' := 5100) (st' := [.ref 59, .ref 57]) (by rw [hl2]) ?_
  have hc_3 := wP_old e3 hc_2
  have c1_3 := wP_old e3 c1_2
  have c3 := wP_new e3 hl2
  have fr3 : ∀ j, j < 57 → h3[j]? = h[j]? := fun j z1 => (wP_off e3 hl2 (by omega)).trans (fr2 j z1)
  have hl3 : h3.length = 60 := by have z9 := wP_len e3 hl2; omega
  refine w_put d_MO_init_18 f_MO_13 rfl hc_3 rfl rfl rfl ?_
  refine w_nm (fun h4 e4 => ?_)
  have hc_4 := wS_eq e4 hc_3
  have c1_4 := wS_ne e4 (by omega) c1_3
  have c3_4 := wS_ne e4 (by omega) c3
  have hl4 := wS_len e4 hl3
  have fr4 : ∀ j, j < 57 → h4[j]? = h[j]? := fun j z1 => (wS_off e4 (by omega)).trans (fr3 j z1)
  refine w_aload_n d_MO_init_21 rfl rfl ?_
  refine w_bipush (v := nI 12) d_MO_init_22 (by decide) ?_
  refine w_newI (N := 12) d_MO_init_24 wArrI (by decide) (by decide) (by decide) (by decide) (by decide) ?_
  refine w_nm (fun h5 e5 => ?_)
  refine w_eq (nc' := 3) (u' := 5112) (st' := [.ref 60, .ref 57]) (by rw [hl4]) ?_
  have hc_5 := wP_old e5 hc_4
  have c1_5 := wP_old e5 c1_4
  have c3_5 := wP_old e5 c3_4
  have c5 := wP_new e5 hl4
  have fr5 : ∀ j, j < 57 → h5[j]? = h[j]? := fun j z1 => (wP_off e5 hl4 (by omega)).trans (fr4 j z1)
  have hl5 : h5.length = 61 := by have z9 := wP_len e5 hl4; omega
  refine w_put d_MO_init_26 f_MO_16 rfl hc_5 rfl rfl rfl ?_
  refine w_nm (fun h6 e6 => ?_)
  have hc_6 := wS_eq e6 hc_5
  have c1_6 := wS_ne e6 (by omega) c1_5
  have c3_6 := wS_ne e6 (by omega) c3_5
  have c5_6 := wS_ne e6 (by omega) c5
  have hl6 := wS_len e6 hl5
  have fr6 : ∀ j, j < 57 → h6[j]? = h[j]? := fun j z1 => (wS_off e6 (by omega)).trans (fr5 j z1)
  refine w_aload_n d_MO_init_29 rfl rfl ?_
  refine w_sipush (v := nI 240) d_MO_init_30 (by decide) ?_
  refine w_newJ (N := 240) d_MO_init_33 wArrJ (by decide) (by decide) (by decide) (by decide) (by decide) ?_
  refine w_nm (fun h7 e7 => ?_)
  refine w_eq (nc' := 4) (u' := 5352) (st' := [.ref 61, .ref 57]) (by rw [hl6]) ?_
  have hc_7 := wP_old e7 hc_6
  have c1_7 := wP_old e7 c1_6
  have c3_7 := wP_old e7 c3_6
  have c5_7 := wP_old e7 c5_6
  have c7 := wP_new e7 hl6
  have fr7 : ∀ j, j < 57 → h7[j]? = h[j]? := fun j z1 => (wP_off e7 hl6 (by omega)).trans (fr6 j z1)
  have hl7 : h7.length = 62 := by have z9 := wP_len e7 hl6; omega
  refine w_put d_MO_init_35 f_MO_19 rfl hc_7 rfl rfl rfl ?_
  refine w_nm (fun h8 e8 => ?_)
  have hc_8 := wS_eq e8 hc_7
  have c1_8 := wS_ne e8 (by omega) c1_7
  have c3_8 := wS_ne e8 (by omega) c3_7
  have c5_8 := wS_ne e8 (by omega) c5_7
  have c7_8 := wS_ne e8 (by omega) c7
  have hl8 := wS_len e8 hl7
  have fr8 : ∀ j, j < 57 → h8[j]? = h[j]? := fun j z1 => (wS_off e8 (by omega)).trans (fr7 j z1)
  refine w_aload_n d_MO_init_38 rfl rfl ?_
  refine w_bipush (v := nI 12) d_MO_init_39 (by decide) ?_
  refine w_newI (N := 12) d_MO_init_41 wArrI (by decide) (by decide) (by decide) (by decide) (by decide) ?_
  refine w_nm (fun h9 e9 => ?_)
  refine w_eq (nc' := 5) (u' := 5364) (st' := [.ref 62, .ref 57]) (by rw [hl8]) ?_
  have hc_9 := wP_old e9 hc_8
  have c1_9 := wP_old e9 c1_8
  have c3_9 := wP_old e9 c3_8
  have c5_9 := wP_old e9 c5_8
  have c7_9 := wP_old e9 c7_8
  have c9 := wP_new e9 hl8
  have fr9 : ∀ j, j < 57 → h9[j]? = h[j]? := fun j z1 => (wP_off e9 hl8 (by omega)).trans (fr8 j z1)
  have hl9 : h9.length = 63 := by have z9 := wP_len e9 hl8; omega
  refine w_put d_MO_init_43 f_MO_23 rfl hc_9 rfl rfl rfl ?_
  refine w_nm (fun h10 e10 => ?_)
  have hc_10 := wS_eq e10 hc_9
  have c1_10 := wS_ne e10 (by omega) c1_9
  have c3_10 := wS_ne e10 (by omega) c3_9
  have c5_10 := wS_ne e10 (by omega) c5_9
  have c7_10 := wS_ne e10 (by omega) c7_9
  have c9_10 := wS_ne e10 (by omega) c9
  have hl10 := wS_len e10 hl9
  have fr10 : ∀ j, j < 57 → h10[j]? = h[j]? := fun j z1 => (wS_off e10 (by omega)).trans (fr9 j z1)
  refine w_aload_n d_MO_init_46 rfl rfl ?_
  refine w_bipush (v := nI 6) d_MO_init_47 (by decide) ?_
  refine w_newZ (N := 6) d_MO_init_49 wArrZ (by decide) (by decide) (by decide) (by decide) (by decide) ?_
  refine w_nm (fun h11 e11 => ?_)
  refine w_eq (nc' := 6) (u' := 5370) (st' := [.ref 63, .ref 57]) (by rw [hl10]) ?_
  have hc_11 := wP_old e11 hc_10
  have c1_11 := wP_old e11 c1_10
  have c3_11 := wP_old e11 c3_10
  have c5_11 := wP_old e11 c5_10
  have c7_11 := wP_old e11 c7_10
  have c9_11 := wP_old e11 c9_10
  have c11 := wP_new e11 hl10
  have fr11 : ∀ j, j < 57 → h11[j]? = h[j]? := fun j z1 => (wP_off e11 hl10 (by omega)).trans (fr10 j z1)
  have hl11 : h11.length = 64 := by have z9 := wP_len e11 hl10; omega
  refine w_put d_MO_init_51 f_MO_26 rfl hc_11 rfl rfl rfl ?_
  refine w_nm (fun h12 e12 => ?_)
  have hc_12 := wS_eq e12 hc_11
  have c1_12 := wS_ne e12 (by omega) c1_11
  have c3_12 := wS_ne e12 (by omega) c3_11
  have c5_12 := wS_ne e12 (by omega) c5_11
  have c7_12 := wS_ne e12 (by omega) c7_11
  have c9_12 := wS_ne e12 (by omega) c9_11
  have c11_12 := wS_ne e12 (by omega) c11
  have hl12 := wS_len e12 hl11
  have fr12 : ∀ j, j < 57 → h12[j]? = h[j]? := fun j z1 => (wS_off e12 (by omega)).trans (fr11 j z1)
  refine w_aload_n d_MO_init_54 rfl rfl ?_
  refine w_bipush (v := nI 6) d_MO_init_55 (by decide) ?_
  refine w_newI (N := 6) d_MO_init_57 wArrI (by decide) (by decide) (by decide) (by decide) (by decide) ?_
  refine w_nm (fun h13 e13 => ?_)
  refine w_eq (nc' := 7) (u' := 5376) (st' := [.ref 64, .ref 57]) (by rw [hl12]) ?_
  have hc_13 := wP_old e13 hc_12
  have c1_13 := wP_old e13 c1_12
  have c3_13 := wP_old e13 c3_12
  have c5_13 := wP_old e13 c5_12
  have c7_13 := wP_old e13 c7_12
  have c9_13 := wP_old e13 c9_12
  have c11_13 := wP_old e13 c11_12
  have c13 := wP_new e13 hl12
  have fr13 : ∀ j, j < 57 → h13[j]? = h[j]? := fun j z1 => (wP_off e13 hl12 (by omega)).trans (fr12 j z1)
  have hl13 : h13.length = 65 := by have z9 := wP_len e13 hl12; omega
  refine w_put d_MO_init_59 f_MO_30 rfl hc_13 rfl rfl rfl ?_
  refine w_nm (fun h14 e14 => ?_)
  have hc_14 := wS_eq e14 hc_13
  have c1_14 := wS_ne e14 (by omega) c1_13
  have c3_14 := wS_ne e14 (by omega) c3_13
  have c5_14 := wS_ne e14 (by omega) c5_13
  have c7_14 := wS_ne e14 (by omega) c7_13
  have c9_14 := wS_ne e14 (by omega) c9_13
  have c11_14 := wS_ne e14 (by omega) c11_13
  have c13_14 := wS_ne e14 (by omega) c13
  have hl14 := wS_len e14 hl13
  have fr14 : ∀ j, j < 57 → h14[j]? = h[j]? := fun j z1 => (wS_off e14 (by omega)).trans (fr13 j z1)
  refine w_aload_n d_MO_init_62 rfl rfl ?_
  refine w_bipush (v := nI 6) d_MO_init_63 (by decide) ?_
  refine w_newI (N := 6) d_MO_init_65 wArrI (by decide) (by decide) (by decide) (by decide) (by decide) ?_
  refine w_nm (fun h15 e15 => ?_)
  refine w_eq (nc' := 8) (u' := 5382) (st' := [.ref 65, .ref 57]) (by rw [hl14]) ?_
  have hc_15 := wP_old e15 hc_14
  have c1_15 := wP_old e15 c1_14
  have c3_15 := wP_old e15 c3_14
  have c5_15 := wP_old e15 c5_14
  have c7_15 := wP_old e15 c7_14
  have c9_15 := wP_old e15 c9_14
  have c11_15 := wP_old e15 c11_14
  have c13_15 := wP_old e15 c13_14
  have c15 := wP_new e15 hl14
  have fr15 : ∀ j, j < 57 → h15[j]? = h[j]? := fun j z1 => (wP_off e15 hl14 (by omega)).trans (fr14 j z1)
  have hl15 : h15.length = 66 := by have z9 := wP_len e15 hl14; omega
  refine w_put d_MO_init_67 f_MO_33 rfl hc_15 rfl rfl rfl ?_
  refine w_nm (fun h16 e16 => ?_)
  have hc_16 := wS_eq e16 hc_15
  have c1_16 := wS_ne e16 (by omega) c1_15
  have c3_16 := wS_ne e16 (by omega) c3_15
  have c5_16 := wS_ne e16 (by omega) c5_15
  have c7_16 := wS_ne e16 (by omega) c7_15
  have c9_16 := wS_ne e16 (by omega) c9_15
  have c11_16 := wS_ne e16 (by omega) c11_15
  have c13_16 := wS_ne e16 (by omega) c13_15
  have c15_16 := wS_ne e16 (by omega) c15
  have hl16 := wS_len e16 hl15
  have fr16 : ∀ j, j < 57 → h16[j]? = h[j]? := fun j z1 => (wS_off e16 (by omega)).trans (fr15 j z1)
  refine w_aload_n d_MO_init_70 rfl rfl ?_
  refine w_bipush (v := nI 60) d_MO_init_71 (by decide) ?_
  refine w_newI (N := 60) d_MO_init_73 wArrI (by decide) (by decide) (by decide) (by decide) (by decide) ?_
  refine w_nm (fun h17 e17 => ?_)
  refine w_eq (nc' := 9) (u' := 5442) (st' := [.ref 66, .ref 57]) (by rw [hl16]) ?_
  have hc_17 := wP_old e17 hc_16
  have c1_17 := wP_old e17 c1_16
  have c3_17 := wP_old e17 c3_16
  have c5_17 := wP_old e17 c5_16
  have c7_17 := wP_old e17 c7_16
  have c9_17 := wP_old e17 c9_16
  have c11_17 := wP_old e17 c11_16
  have c13_17 := wP_old e17 c13_16
  have c15_17 := wP_old e17 c15_16
  have c17 := wP_new e17 hl16
  have fr17 : ∀ j, j < 57 → h17[j]? = h[j]? := fun j z1 => (wP_off e17 hl16 (by omega)).trans (fr16 j z1)
  have hl17 : h17.length = 67 := by have z9 := wP_len e17 hl16; omega
  refine w_put d_MO_init_75 f_MO_36 rfl hc_17 rfl rfl rfl ?_
  refine w_nm (fun h18 e18 => ?_)
  have hc_18 := wS_eq e18 hc_17
  have c1_18 := wS_ne e18 (by omega) c1_17
  have c3_18 := wS_ne e18 (by omega) c3_17
  have c5_18 := wS_ne e18 (by omega) c5_17
  have c7_18 := wS_ne e18 (by omega) c7_17
  have c9_18 := wS_ne e18 (by omega) c9_17
  have c11_18 := wS_ne e18 (by omega) c11_17
  have c13_18 := wS_ne e18 (by omega) c13_17
  have c15_18 := wS_ne e18 (by omega) c15_17
  have c17_18 := wS_ne e18 (by omega) c17
  have hl18 := wS_len e18 hl17
  have fr18 : ∀ j, j < 57 → h18[j]? = h[j]? := fun j z1 => (wS_off e18 (by omega)).trans (fr17 j z1)
  refine w_aload_n d_MO_init_78 rfl rfl ?_
  refine w_bipush (v := nI 61) d_MO_init_79 (by decide) ?_
  refine w_newZ (N := 61) d_MO_init_81 wArrZ (by decide) (by decide) (by decide) (by decide) (by decide) ?_
  refine w_nm (fun h19 e19 => ?_)
  refine w_eq (nc' := 10) (u' := 5503) (st' := [.ref 67, .ref 57]) (by rw [hl18]) ?_
  have hc_19 := wP_old e19 hc_18
  have c1_19 := wP_old e19 c1_18
  have c3_19 := wP_old e19 c3_18
  have c5_19 := wP_old e19 c5_18
  have c7_19 := wP_old e19 c7_18
  have c9_19 := wP_old e19 c9_18
  have c11_19 := wP_old e19 c11_18
  have c13_19 := wP_old e19 c13_18
  have c15_19 := wP_old e19 c15_18
  have c17_19 := wP_old e19 c17_18
  have c19 := wP_new e19 hl18
  have fr19 : ∀ j, j < 57 → h19[j]? = h[j]? := fun j z1 => (wP_off e19 hl18 (by omega)).trans (fr18 j z1)
  have hl19 : h19.length = 68 := by have z9 := wP_len e19 hl18; omega
  refine w_put d_MO_init_83 f_MO_39 rfl hc_19 rfl rfl rfl ?_
  refine w_nm (fun h20 e20 => ?_)
  have hc_20 := wS_eq e20 hc_19
  have c1_20 := wS_ne e20 (by omega) c1_19
  have c3_20 := wS_ne e20 (by omega) c3_19
  have c5_20 := wS_ne e20 (by omega) c5_19
  have c7_20 := wS_ne e20 (by omega) c7_19
  have c9_20 := wS_ne e20 (by omega) c9_19
  have c11_20 := wS_ne e20 (by omega) c11_19
  have c13_20 := wS_ne e20 (by omega) c13_19
  have c15_20 := wS_ne e20 (by omega) c15_19
  have c17_20 := wS_ne e20 (by omega) c17_19
  have c19_20 := wS_ne e20 (by omega) c19
  have hl20 := wS_len e20 hl19
  have fr20 : ∀ j, j < 57 → h20[j]? = h[j]? := fun j z1 => (wS_off e20 (by omega)).trans (fr19 j z1)
  refine w_aload_n d_MO_init_86 rfl rfl ?_
  refine w_get d_MO_init_87 f_MO_13 hc_20 rfl ?_
  refine w_sipush (v := nI 4621) d_MO_init_90 (by decide) ?_
  refine w_ldc (v := nI 1114112) d_MO_init_93 k_MO_42 ?_
  refine w_iast d_MO_init_95 c3_20 (vp_in_nI (by decide) (by decide)) ?_
  refine w_nm (fun h21 e21 => ?_)
  have hc_21 := wS_ne e21 (by omega) hc_20
  have c1_21 := wS_ne e21 (by omega) c1_20
  have c3_21 := wS_eq e21 c3_20
  have c5_21 := wS_ne e21 (by omega) c5_20
  have c7_21 := wS_ne e21 (by omega) c7_20
  have c9_21 := wS_ne e21 (by omega) c9_20
  have c11_21 := wS_ne e21 (by omega) c11_20
  have c13_21 := wS_ne e21 (by omega) c13_20
  have c15_21 := wS_ne e21 (by omega) c15_20
  have c17_21 := wS_ne e21 (by omega) c17_20
  have c19_21 := wS_ne e21 (by omega) c19_20
  have hl21 := wS_len e21 hl20
  have fr21 : ∀ j, j < 57 → h21[j]? = h[j]? := fun j z1 => (wS_off e21 (by omega)).trans (fr20 j z1)
  refine w_aload_n d_MO_init_96 rfl rfl ?_
  refine w_get d_MO_init_97 f_MO_16 hc_21 rfl ?_
  refine w_bipush (v := nI 11) d_MO_init_100 (by decide) ?_
  refine w_iconst (v := nI 2) d_MO_init_102 (by decide) ?_
  refine w_iast d_MO_init_103 c5_21 (vp_in_nI (by decide) (by decide)) ?_
  refine w_nm (fun h22 e22 => ?_)
  have hc_22 := wS_ne e22 (by omega) hc_21
  have c1_22 := wS_ne e22 (by omega) c1_21
  have c3_22 := wS_ne e22 (by omega) c3_21
  have c5_22 := wS_eq e22 c5_21
  have c7_22 := wS_ne e22 (by omega) c7_21
  have c9_22 := wS_ne e22 (by omega) c9_21
  have c11_22 := wS_ne e22 (by omega) c11_21
  have c13_22 := wS_ne e22 (by omega) c13_21
  have c15_22 := wS_ne e22 (by omega) c15_21
  have c17_22 := wS_ne e22 (by omega) c17_21
  have c19_22 := wS_ne e22 (by omega) c19_21
  have hl22 := wS_len e22 hl21
  have fr22 : ∀ j, j < 57 → h22[j]? = h[j]? := fun j z1 => (wS_off e22 (by omega)).trans (fr21 j z1)
  rw [← hEN]
  refine w_vret d_MO_init_104 rfl ?_
  have ha := c3_22
  have hb := c5_22
  rw [nI_clamp (by decide)] at ha hb
  exact ⟨rfl, hl22, ⟨⟨_, _, _, _, _, hc_22⟩, ⟨_, c1_22, Nat.zero_le _, fun i x z => by cases z⟩, ⟨_, _, _, _, ha, hb, c7_22, c9_22, mE_0 rfl rfl rfl rfl⟩, ⟨_, c11_22⟩, ⟨_, c13_22⟩, ⟨_, c15_22⟩, ⟨_, c17_22⟩, ⟨_, c19_22⟩⟩, fr22⟩
end IN2
