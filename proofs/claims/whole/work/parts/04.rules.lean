/-! a rule an instruction (written by wip/gen/mkwp.py) -/
section WR
variable {X : wX} {M : wM} {R : Room} {B : Nat} {E : wN} {nc u pc : Nat} {pl : List (Option Value)} {st : List Value} {h : wH}
theorem w_iconst {n : Int} {v : Int32} (hd : decode M.2.1 pc = .ok (.iconst n, 1)) (hv : Int32.ofInt n = v) (k : WP X M R B E nc u (pc + 1) pl (.int v :: st) h) : WP X M R B E nc u pc pl (st) h := by
  intro p e s m args below meth c n0 H ls locs hG hn hl hP hS
  exact lv_iconst  (rest := st.map (wv X)) hG.1 hG.2.1 hd hv (k p e s m args below meth c n0 H ls locs hG hn hl hP hS)
theorem w_bipush {n : Int} {v : Int32} (hd : decode M.2.1 pc = .ok (.bipush n, 2)) (hv : (Int8.ofInt n).toInt32 = v) (k : WP X M R B E nc u (pc + 2) pl (.int v :: st) h) : WP X M R B E nc u pc pl (st) h := by
  intro p e s m args below meth c n0 H ls locs hG hn hl hP hS
  exact lv_bipush  (rest := st.map (wv X)) hG.1 hG.2.1 hd hv (k p e s m args below meth c n0 H ls locs hG hn hl hP hS)
theorem w_sipush {n : Int} {v : Int32} (hd : decode M.2.1 pc = .ok (.sipush n, 3)) (hv : (Int16.ofInt n).toInt32 = v) (k : WP X M R B E nc u (pc + 3) pl (.int v :: st) h) : WP X M R B E nc u pc pl (st) h := by
  intro p e s m args below meth c n0 H ls locs hG hn hl hP hS
  exact lv_sipush  (rest := st.map (wv X)) hG.1 hG.2.1 hd hv (k p e s m args below meth c n0 H ls locs hG hn hl hP hS)
theorem w_lconst {n : Fin 2} {v : Int64} (hd : decode M.2.1 pc = .ok (.lconst n, 1)) (hv : Int64.ofNat (n : Nat) = v) (k : WP X M R B E nc u (pc + 1) pl (.long v :: st) h) : WP X M R B E nc u pc pl (st) h := by
  intro p e s m args below meth c n0 H ls locs hG hn hl hP hS
  exact lv_lconst  (rest := st.map (wv X)) hG.1 hG.2.1 hd hv (k p e s m args below meth c n0 H ls locs hG hn hl hP hS)
theorem w_iadd {x y : Int32} (hd : decode M.2.1 pc = .ok (.iadd, 1)) (k : WP X M R B E nc u (pc + 1) pl (.int (x + y) :: st) h) : WP X M R B E nc u pc pl (.int y :: .int x :: st) h := by
  intro p e s m args below meth c n0 H ls locs hG hn hl hP hS
  exact lv_iadd (x := x) (y := y) (rest := st.map (wv X)) hG.1 hG.2.1 hd (k p e s m args below meth c n0 H ls locs hG hn hl hP hS)
theorem w_isub {x y : Int32} (hd : decode M.2.1 pc = .ok (.isub, 1)) (k : WP X M R B E nc u (pc + 1) pl (.int (x - y) :: st) h) : WP X M R B E nc u pc pl (.int y :: .int x :: st) h := by
  intro p e s m args below meth c n0 H ls locs hG hn hl hP hS
  exact lv_isub (x := x) (y := y) (rest := st.map (wv X)) hG.1 hG.2.1 hd (k p e s m args below meth c n0 H ls locs hG hn hl hP hS)
theorem w_imul {x y : Int32} (hd : decode M.2.1 pc = .ok (.imul, 1)) (k : WP X M R B E nc u (pc + 1) pl (.int (x * y) :: st) h) : WP X M R B E nc u pc pl (.int y :: .int x :: st) h := by
  intro p e s m args below meth c n0 H ls locs hG hn hl hP hS
  exact lv_imul (x := x) (y := y) (rest := st.map (wv X)) hG.1 hG.2.1 hd (k p e s m args below meth c n0 H ls locs hG hn hl hP hS)
theorem w_iand {x y : Int32} (hd : decode M.2.1 pc = .ok (.iand, 1)) (k : WP X M R B E nc u (pc + 1) pl (.int (x &&& y) :: st) h) : WP X M R B E nc u pc pl (.int y :: .int x :: st) h := by
  intro p e s m args below meth c n0 H ls locs hG hn hl hP hS
  exact lv_iand (x := x) (y := y) (rest := st.map (wv X)) hG.1 hG.2.1 hd (k p e s m args below meth c n0 H ls locs hG hn hl hP hS)
theorem w_ior {x y : Int32} (hd : decode M.2.1 pc = .ok (.ior, 1)) (k : WP X M R B E nc u (pc + 1) pl (.int (x ||| y) :: st) h) : WP X M R B E nc u pc pl (.int y :: .int x :: st) h := by
  intro p e s m args below meth c n0 H ls locs hG hn hl hP hS
  exact lv_ior (x := x) (y := y) (rest := st.map (wv X)) hG.1 hG.2.1 hd (k p e s m args below meth c n0 H ls locs hG hn hl hP hS)
theorem w_ixor {x y : Int32} (hd : decode M.2.1 pc = .ok (.ixor, 1)) (k : WP X M R B E nc u (pc + 1) pl (.int (x ^^^ y) :: st) h) : WP X M R B E nc u pc pl (.int y :: .int x :: st) h := by
  intro p e s m args below meth c n0 H ls locs hG hn hl hP hS
  exact lv_ixor (x := x) (y := y) (rest := st.map (wv X)) hG.1 hG.2.1 hd (k p e s m args below meth c n0 H ls locs hG hn hl hP hS)
theorem w_idiv {x y : Int32} (hd : decode M.2.1 pc = .ok (.idiv, 1)) (hne : ¬ y = 0) (k : WP X M R B E nc u (pc + 1) pl (.int (x / y) :: st) h) : WP X M R B E nc u pc pl (.int y :: .int x :: st) h := by
  intro p e s m args below meth c n0 H ls locs hG hn hl hP hS
  exact lv_idiv (x := x) (y := y) (rest := st.map (wv X)) hG.1 hG.2.1 hd hne (k p e s m args below meth c n0 H ls locs hG hn hl hP hS)
theorem w_ineg {x : Int32} (hd : decode M.2.1 pc = .ok (.ineg, 1)) (k : WP X M R B E nc u (pc + 1) pl (.int (-x) :: st) h) : WP X M R B E nc u pc pl (.int x :: st) h := by
  intro p e s m args below meth c n0 H ls locs hG hn hl hP hS
  exact lv_ineg (x := x) (rest := st.map (wv X)) hG.1 hG.2.1 hd (k p e s m args below meth c n0 H ls locs hG hn hl hP hS)
theorem w_ishl {x y : Int32} (hd : decode M.2.1 pc = .ok (.ishl, 1)) (k : WP X M R B E nc u (pc + 1) pl (.int (x <<< (y &&& 31)) :: st) h) : WP X M R B E nc u pc pl (.int y :: .int x :: st) h := by
  intro p e s m args below meth c n0 H ls locs hG hn hl hP hS
  exact lv_ishl (x := x) (y := y) (rest := st.map (wv X)) hG.1 hG.2.1 hd (k p e s m args below meth c n0 H ls locs hG hn hl hP hS)
theorem w_ishr {x y : Int32} (hd : decode M.2.1 pc = .ok (.ishr, 1)) (k : WP X M R B E nc u (pc + 1) pl (.int (x >>> (y &&& 31)) :: st) h) : WP X M R B E nc u pc pl (.int y :: .int x :: st) h := by
  intro p e s m args below meth c n0 H ls locs hG hn hl hP hS
  exact lv_ishr (x := x) (y := y) (rest := st.map (wv X)) hG.1 hG.2.1 hd (k p e s m args below meth c n0 H ls locs hG hn hl hP hS)
theorem w_ladd {x y : Int64} (hd : decode M.2.1 pc = .ok (.ladd, 1)) (k : WP X M R B E nc u (pc + 1) pl (.long (x + y) :: st) h) : WP X M R B E nc u pc pl (.long y :: .long x :: st) h := by
  intro p e s m args below meth c n0 H ls locs hG hn hl hP hS
  exact lv_ladd (x := x) (y := y) (rest := st.map (wv X)) hG.1 hG.2.1 hd (k p e s m args below meth c n0 H ls locs hG hn hl hP hS)
theorem w_lsub {x y : Int64} (hd : decode M.2.1 pc = .ok (.lsub, 1)) (k : WP X M R B E nc u (pc + 1) pl (.long (x - y) :: st) h) : WP X M R B E nc u pc pl (.long y :: .long x :: st) h := by
  intro p e s m args below meth c n0 H ls locs hG hn hl hP hS
  exact lv_lsub (x := x) (y := y) (rest := st.map (wv X)) hG.1 hG.2.1 hd (k p e s m args below meth c n0 H ls locs hG hn hl hP hS)
theorem w_lmul {x y : Int64} (hd : decode M.2.1 pc = .ok (.lmul, 1)) (k : WP X M R B E nc u (pc + 1) pl (.long (x * y) :: st) h) : WP X M R B E nc u pc pl (.long y :: .long x :: st) h := by
  intro p e s m args below meth c n0 H ls locs hG hn hl hP hS
  exact lv_lmul (x := x) (y := y) (rest := st.map (wv X)) hG.1 hG.2.1 hd (k p e s m args below meth c n0 H ls locs hG hn hl hP hS)
theorem w_land {x y : Int64} (hd : decode M.2.1 pc = .ok (.land, 1)) (k : WP X M R B E nc u (pc + 1) pl (.long (x &&& y) :: st) h) : WP X M R B E nc u pc pl (.long y :: .long x :: st) h := by
  intro p e s m args below meth c n0 H ls locs hG hn hl hP hS
  exact lv_land (x := x) (y := y) (rest := st.map (wv X)) hG.1 hG.2.1 hd (k p e s m args below meth c n0 H ls locs hG hn hl hP hS)
theorem w_lor {x y : Int64} (hd : decode M.2.1 pc = .ok (.lor, 1)) (k : WP X M R B E nc u (pc + 1) pl (.long (x ||| y) :: st) h) : WP X M R B E nc u pc pl (.long y :: .long x :: st) h := by
  intro p e s m args below meth c n0 H ls locs hG hn hl hP hS
  exact lv_lor (x := x) (y := y) (rest := st.map (wv X)) hG.1 hG.2.1 hd (k p e s m args below meth c n0 H ls locs hG hn hl hP hS)
theorem w_lxor {x y : Int64} (hd : decode M.2.1 pc = .ok (.lxor, 1)) (k : WP X M R B E nc u (pc + 1) pl (.long (x ^^^ y) :: st) h) : WP X M R B E nc u pc pl (.long y :: .long x :: st) h := by
  intro p e s m args below meth c n0 H ls locs hG hn hl hP hS
  exact lv_lxor (x := x) (y := y) (rest := st.map (wv X)) hG.1 hG.2.1 hd (k p e s m args below meth c n0 H ls locs hG hn hl hP hS)
theorem w_lshl {x : Int64} {y : Int32} (hd : decode M.2.1 pc = .ok (.lshl, 1)) (k : WP X M R B E nc u (pc + 1) pl (.long (x <<< (y.toInt64 &&& 63)) :: st) h) : WP X M R B E nc u pc pl (.int y :: .long x :: st) h := by
  intro p e s m args below meth c n0 H ls locs hG hn hl hP hS
  exact lv_lshl (x := x) (y := y) (rest := st.map (wv X)) hG.1 hG.2.1 hd rfl (k p e s m args below meth c n0 H ls locs hG hn hl hP hS)
theorem w_lshr {x : Int64} {y : Int32} (hd : decode M.2.1 pc = .ok (.lshr, 1)) (k : WP X M R B E nc u (pc + 1) pl (.long (x >>> (y.toInt64 &&& 63)) :: st) h) : WP X M R B E nc u pc pl (.int y :: .long x :: st) h := by
  intro p e s m args below meth c n0 H ls locs hG hn hl hP hS
  exact lv_lshr (x := x) (y := y) (rest := st.map (wv X)) hG.1 hG.2.1 hd rfl (k p e s m args below meth c n0 H ls locs hG hn hl hP hS)
theorem w_i2l {x : Int32} (hd : decode M.2.1 pc = .ok (.i2l, 1)) (k : WP X M R B E nc u (pc + 1) pl (.long x.toInt64 :: st) h) : WP X M R B E nc u pc pl (.int x :: st) h := by
  intro p e s m args below meth c n0 H ls locs hG hn hl hP hS
  exact lv_i2l (x := x) (rest := st.map (wv X)) hG.1 hG.2.1 hd rfl (k p e s m args below meth c n0 H ls locs hG hn hl hP hS)
theorem w_l2i {x : Int64} (hd : decode M.2.1 pc = .ok (.l2i, 1)) (k : WP X M R B E nc u (pc + 1) pl (.int x.toInt32 :: st) h) : WP X M R B E nc u pc pl (.long x :: st) h := by
  intro p e s m args below meth c n0 H ls locs hG hn hl hP hS
  exact lv_l2i (x := x) (rest := st.map (wv X)) hG.1 hG.2.1 hd rfl (k p e s m args below meth c n0 H ls locs hG hn hl hP hS)
theorem w_i2c {x : Int32} (hd : decode M.2.1 pc = .ok (.i2c, 1)) (k : WP X M R B E nc u (pc + 1) pl (.int (x.toUInt32 % 65536).toInt32 :: st) h) : WP X M R B E nc u pc pl (.int x :: st) h := by
  intro p e s m args below meth c n0 H ls locs hG hn hl hP hS
  exact lv_i2c (x := x) (rest := st.map (wv X)) hG.1 hG.2.1 hd rfl (k p e s m args below meth c n0 H ls locs hG hn hl hP hS)
theorem w_lcmp {x y : Int64} (hd : decode M.2.1 pc = .ok (.lcmp, 1)) (k : WP X M R B E nc u (pc + 1) pl (.int (lg_cmp x y) :: st) h) : WP X M R B E nc u pc pl (.long y :: .long x :: st) h := by
  intro p e s m args below meth c n0 H ls locs hG hn hl hP hS
  exact W.lcmp (x := x) (y := y) (rest := st.map (wv X)) hG.1 hG.2.1 hd (k p e s m args below meth c n0 H ls locs hG hn hl hP hS)
theorem w_null  (hd : decode M.2.1 pc = .ok (.aconst_null, 1)) (k : WP X M R B E nc u (pc + 1) pl (.null :: st) h) : WP X M R B E nc u pc pl (st) h := by
  intro p e s m args below meth c n0 H ls locs hG hn hl hP hS
  exact lv_null  (rest := st.map (wv X)) hG.1 hG.2.1 hd (k p e s m args below meth c n0 H ls locs hG hn hl hP hS)
theorem w_dup {va : Value} (hd : decode M.2.1 pc = .ok (.dup, 1)) (hva : va.category = 1) (k : WP X M R B E nc u (pc + 1) pl (va :: va :: st) h) : WP X M R B E nc u pc pl (va :: st) h := by
  intro p e s m args below meth c n0 H ls locs hG hn hl hP hS
  exact lv_dup (va := wv X va) (rest := st.map (wv X)) hG.1 hG.2.1 hd ((wv_cat X va).trans hva) (k p e s m args below meth c n0 H ls locs hG hn hl hP hS)
theorem w_pop {va : Value} (hd : decode M.2.1 pc = .ok (.pop, 1)) (hva : va.category = 1) (k : WP X M R B E nc u (pc + 1) pl (st) h) : WP X M R B E nc u pc pl (va :: st) h := by
  intro p e s m args below meth c n0 H ls locs hG hn hl hP hS
  exact lv_pop (va := wv X va) (rest := st.map (wv X)) hG.1 hG.2.1 hd ((wv_cat X va).trans hva) (k p e s m args below meth c n0 H ls locs hG hn hl hP hS)
theorem w_dup_x1 {va vb : Value} (hd : decode M.2.1 pc = .ok (.dup_x1, 1)) (hva : va.category = 1) (hvb : vb.category = 1) (k : WP X M R B E nc u (pc + 1) pl (va :: vb :: va :: st) h) : WP X M R B E nc u pc pl (va :: vb :: st) h := by
  intro p e s m args below meth c n0 H ls locs hG hn hl hP hS
  exact lv_dup_x1 (va := wv X va) (vb := wv X vb) (rest := st.map (wv X)) hG.1 hG.2.1 hd ((wv_cat X va).trans hva) ((wv_cat X vb).trans hvb) (k p e s m args below meth c n0 H ls locs hG hn hl hP hS)
theorem w_dup2 {va vb : Value} (hd : decode M.2.1 pc = .ok (.dup2, 1)) (hva : va.category = 1) (hvb : vb.category = 1) (k : WP X M R B E nc u (pc + 1) pl (va :: vb :: va :: vb :: st) h) : WP X M R B E nc u pc pl (va :: vb :: st) h := by
  intro p e s m args below meth c n0 H ls locs hG hn hl hP hS
  exact lv_dup2_11 (va := wv X va) (vb := wv X vb) (rest := st.map (wv X)) hG.1 hG.2.1 hd ((wv_cat X va).trans hva) ((wv_cat X vb).trans hvb) (k p e s m args below meth c n0 H ls locs hG hn hl hP hS)
theorem w_iload_n {j : Fin 4} {x : Int32} (hd : decode M.2.1 pc = .ok (.iload_n j, 1)) (hv : pl[(j : Nat)]? = some (some (.int x))) (k : WP X M R B E nc u (pc + 1) pl (.int x :: st) h) : WP X M R B E nc u pc pl st h := by
  intro p e s m args below meth c n0 H ls locs hG hn hl hP hS
  exact lv_iload_n (rest := st.map (wv X)) hG.1 hG.2.1 hd rfl (wl_at hl hv) (k p e s m args below meth c n0 H ls locs hG hn hl hP hS)
theorem w_iload {j : Nat} {x : Int32} (hd : decode M.2.1 pc = .ok (.iload j, 2)) (hv : pl[j]? = some (some (.int x))) (k : WP X M R B E nc u (pc + 2) pl (.int x :: st) h) : WP X M R B E nc u pc pl st h := by
  intro p e s m args below meth c n0 H ls locs hG hn hl hP hS
  exact lv_iload (rest := st.map (wv X)) hG.1 hG.2.1 hd (wl_at hl hv) (k p e s m args below meth c n0 H ls locs hG hn hl hP hS)
theorem w_lload_n {j : Fin 4} {x : Int64} (hd : decode M.2.1 pc = .ok (.lload_n j, 1)) (hv : pl[(j : Nat)]? = some (some (.long x))) (k : WP X M R B E nc u (pc + 1) pl (.long x :: st) h) : WP X M R B E nc u pc pl st h := by
  intro p e s m args below meth c n0 H ls locs hG hn hl hP hS
  exact lv_lload_n (rest := st.map (wv X)) hG.1 hG.2.1 hd rfl (wl_at hl hv) (k p e s m args below meth c n0 H ls locs hG hn hl hP hS)
theorem w_lload {j : Nat} {x : Int64} (hd : decode M.2.1 pc = .ok (.lload j, 2)) (hv : pl[j]? = some (some (.long x))) (k : WP X M R B E nc u (pc + 2) pl (.long x :: st) h) : WP X M R B E nc u pc pl st h := by
  intro p e s m args below meth c n0 H ls locs hG hn hl hP hS
  exact lv_lload (rest := st.map (wv X)) hG.1 hG.2.1 hd (wl_at hl hv) (k p e s m args below meth c n0 H ls locs hG hn hl hP hS)
theorem w_aload_n {j : Fin 4} {v : Value} (hd : decode M.2.1 pc = .ok (.aload_n j, 1)) (hv : pl[(j : Nat)]? = some (some v)) (hr : wref v = true) (k : WP X M R B E nc u (pc + 1) pl (v :: st) h) : WP X M R B E nc u pc pl st h := by
  intro p e s m args below meth c n0 H ls locs hG hn hl hP hS
  rcases wref_or hr with rfl | ⟨q, rfl⟩
  · exact lv_aload_nN (rest := st.map (wv X)) hG.1 hG.2.1 hd rfl (wl_at hl hv) (k p e s m args below meth c n0 H ls locs hG hn hl hP hS)
  · exact lv_aload_n (rest := st.map (wv X)) hG.1 hG.2.1 hd rfl (wl_at hl hv) (k p e s m args below meth c n0 H ls locs hG hn hl hP hS)
theorem w_aload {j : Nat} {v : Value} (hd : decode M.2.1 pc = .ok (.aload j, 2)) (hv : pl[j]? = some (some v)) (hr : wref v = true) (k : WP X M R B E nc u (pc + 2) pl (v :: st) h) : WP X M R B E nc u pc pl st h := by
  intro p e s m args below meth c n0 H ls locs hG hn hl hP hS
  rcases wref_or hr with rfl | ⟨q, rfl⟩
  · exact lv_aloadN (rest := st.map (wv X)) hG.1 hG.2.1 hd (wl_at hl hv) (k p e s m args below meth c n0 H ls locs hG hn hl hP hS)
  · exact lv_aload (rest := st.map (wv X)) hG.1 hG.2.1 hd (wl_at hl hv) (k p e s m args below meth c n0 H ls locs hG hn hl hP hS)
theorem w_istore_n {j : Fin 4} {x : Int32} (hd : decode M.2.1 pc = .ok (.istore_n j, 1)) (hj : (j : Nat) < M.2.2.1) (k : WP X M R B E nc u (pc + 1) (wst1 pl (j : Nat) (.int x)) st h) : WP X M R B E nc u pc pl (.int x :: st) h := by
  intro p e s m args below meth c n0 H ls locs hG hn hl hP hS
  exact lv_istore_n (x := x) (rest := st.map (wv X)) hG.1 hG.2.1 hd rfl hl hj rfl (fun ls' hl' => k p e s m args below meth c n0 H ls' locs hG hn (wl_st1 hl') hP hS)
theorem w_lstore_n {j : Fin 4} {x : Int64} (hd : decode M.2.1 pc = .ok (.lstore_n j, 1)) (hj : (j : Nat) + 1 < M.2.2.1) (k : WP X M R B E nc u (pc + 1) (wst2 pl (j : Nat) (.long x)) st h) : WP X M R B E nc u pc pl (.long x :: st) h := by
  intro p e s m args below meth c n0 H ls locs hG hn hl hP hS
  exact lv_lstore_n (x := x) (rest := st.map (wv X)) hG.1 hG.2.1 hd rfl hl hj rfl (fun ls' hl' => k p e s m args below meth c n0 H ls' locs hG hn (wl_st2 hl') hP hS)
theorem w_astore_n {j : Fin 4} {v : Value} (hd : decode M.2.1 pc = .ok (.astore_n j, 1)) (hj : (j : Nat) < M.2.2.1) (hr : wref v = true) (k : WP X M R B E nc u (pc + 1) (wst1 pl (j : Nat) v) st h) : WP X M R B E nc u pc pl (v :: st) h := by
  intro p e s m args below meth c n0 H ls locs hG hn hl hP hS
  rcases wref_or hr with rfl | ⟨q, rfl⟩
  · exact lv_astore_nN (rest := st.map (wv X)) hG.1 hG.2.1 hd rfl hl hj rfl (fun ls' hl' => k p e s m args below meth c n0 H ls' locs hG hn (wl_st1 hl') hP hS)
  · exact lv_astore_n (x := xa X q) (rest := st.map (wv X)) hG.1 hG.2.1 hd rfl hl hj rfl (fun ls' hl' => k p e s m args below meth c n0 H ls' locs hG hn (wl_st1 hl') hP hS)
theorem w_istore {j : Nat} {x : Int32} (hd : decode M.2.1 pc = .ok (.istore j, 2)) (hj : j < M.2.2.1) (k : WP X M R B E nc u (pc + 2) (wst1 pl j (.int x)) st h) : WP X M R B E nc u pc pl (.int x :: st) h := by
  intro p e s m args below meth c n0 H ls locs hG hn hl hP hS
  exact lv_istore (x := x) (rest := st.map (wv X)) hG.1 hG.2.1 hd hl hj rfl (fun ls' hl' => k p e s m args below meth c n0 H ls' locs hG hn (wl_st1 hl') hP hS)
theorem w_lstore {j : Nat} {x : Int64} (hd : decode M.2.1 pc = .ok (.lstore j, 2)) (hj : j + 1 < M.2.2.1) (k : WP X M R B E nc u (pc + 2) (wst2 pl j (.long x)) st h) : WP X M R B E nc u pc pl (.long x :: st) h := by
  intro p e s m args below meth c n0 H ls locs hG hn hl hP hS
  exact lv_lstore (x := x) (rest := st.map (wv X)) hG.1 hG.2.1 hd hl hj rfl (fun ls' hl' => k p e s m args below meth c n0 H ls' locs hG hn (wl_st2 hl') hP hS)
theorem w_astore {j : Nat} {v : Value} (hd : decode M.2.1 pc = .ok (.astore j, 2)) (hj : j < M.2.2.1) (hr : wref v = true) (k : WP X M R B E nc u (pc + 2) (wst1 pl j v) st h) : WP X M R B E nc u pc pl (v :: st) h := by
  intro p e s m args below meth c n0 H ls locs hG hn hl hP hS
  rcases wref_or hr with rfl | ⟨q, rfl⟩
  · exact lv_astoreN (rest := st.map (wv X)) hG.1 hG.2.1 hd hl hj rfl (fun ls' hl' => k p e s m args below meth c n0 H ls' locs hG hn (wl_st1 hl') hP hS)
  · exact lv_astore (x := xa X q) (rest := st.map (wv X)) hG.1 hG.2.1 hd hl hj rfl (fun ls' hl' => k p e s m args below meth c n0 H ls' locs hG hn (wl_st1 hl') hP hS)
theorem w_iinc {j : Nat} {n : Int} {x v : Int32} (hd : decode M.2.1 pc = .ok (.iinc j n, 3)) (hv : pl[j]? = some (some (.int x))) (hx : x + Int32.ofInt n = v) (hj : j < M.2.2.1) (k : WP X M R B E nc u (pc + 3) (wst1 pl j (.int v)) st h) : WP X M R B E nc u pc pl st h := by
  intro p e s m args below meth c n0 H ls locs hG hn hl hP hS
  obtain ⟨i9, hi9⟩ := List.getElem?_of_mem (wll_mem.mpr ⟨_, hv, rfl⟩ : (j, wv X (.int x)) ∈ wll X pl)
  exact lv_iinc (rest := st.map (wv X)) hG.1 hG.2.1 hd hl hi9 hx hj rfl (fun ls' hl' => k p e s m args below meth c n0 H ls' locs hG hn (wl_st1 hl') hP hS)
theorem w_if_eq {x : Int32} {off : Int} {tgt : Nat} (hd : decode M.2.1 pc = .ok (.ifCond .eq off, 3)) (ht : (pc : Int) + off = (tgt : Int)) (kt : x = 0 → WP X M R B E nc u tgt pl st h) (kf : ¬ (x = 0) → WP X M R B E nc u (pc + 3) pl st h) : WP X M R B E nc u pc pl (.int x :: st) h := by
  intro p e s m args below meth c n0 H ls locs hG hn hl hP hS
  exact lv_if_eq (x := x) (rest := st.map (wv X)) hG.1 hG.2.1 hd ht (fun hc => kt hc p e s m args below meth c n0 H ls locs hG hn hl hP hS) (fun hc => kf hc p e s m args below meth c n0 H ls locs hG hn hl hP hS)
theorem w_icmp_eq {x y : Int32} {off : Int} {tgt : Nat} (hd : decode M.2.1 pc = .ok (.if_icmp .eq off, 3)) (ht : (pc : Int) + off = (tgt : Int)) (kt : x = y → WP X M R B E nc u tgt pl st h) (kf : ¬ (x = y) → WP X M R B E nc u (pc + 3) pl st h) : WP X M R B E nc u pc pl (.int y :: .int x :: st) h := by
  intro p e s m args below meth c n0 H ls locs hG hn hl hP hS
  exact lv_icmp_eq (x := x) (y := y) (rest := st.map (wv X)) hG.1 hG.2.1 hd ht (fun hc => kt hc p e s m args below meth c n0 H ls locs hG hn hl hP hS) (fun hc => kf hc p e s m args below meth c n0 H ls locs hG hn hl hP hS)
theorem w_if_ne {x : Int32} {off : Int} {tgt : Nat} (hd : decode M.2.1 pc = .ok (.ifCond .ne off, 3)) (ht : (pc : Int) + off = (tgt : Int)) (kt : ¬ x = 0 → WP X M R B E nc u tgt pl st h) (kf : x = 0 → WP X M R B E nc u (pc + 3) pl st h) : WP X M R B E nc u pc pl (.int x :: st) h := by
  intro p e s m args below meth c n0 H ls locs hG hn hl hP hS
  exact lv_if_ne (x := x) (rest := st.map (wv X)) hG.1 hG.2.1 hd ht (fun hc => kt hc p e s m args below meth c n0 H ls locs hG hn hl hP hS) (fun hc => kf hc p e s m args below meth c n0 H ls locs hG hn hl hP hS)
theorem w_icmp_ne {x y : Int32} {off : Int} {tgt : Nat} (hd : decode M.2.1 pc = .ok (.if_icmp .ne off, 3)) (ht : (pc : Int) + off = (tgt : Int)) (kt : ¬ x = y → WP X M R B E nc u tgt pl st h) (kf : x = y → WP X M R B E nc u (pc + 3) pl st h) : WP X M R B E nc u pc pl (.int y :: .int x :: st) h := by
  intro p e s m args below meth c n0 H ls locs hG hn hl hP hS
  exact lv_icmp_ne (x := x) (y := y) (rest := st.map (wv X)) hG.1 hG.2.1 hd ht (fun hc => kt hc p e s m args below meth c n0 H ls locs hG hn hl hP hS) (fun hc => kf hc p e s m args below meth c n0 H ls locs hG hn hl hP hS)
theorem w_if_lt {x : Int32} {off : Int} {tgt : Nat} (hd : decode M.2.1 pc = .ok (.ifCond .lt off, 3)) (ht : (pc : Int) + off = (tgt : Int)) (kt : x < 0 → WP X M R B E nc u tgt pl st h) (kf : ¬ (x < 0) → WP X M R B E nc u (pc + 3) pl st h) : WP X M R B E nc u pc pl (.int x :: st) h := by
  intro p e s m args below meth c n0 H ls locs hG hn hl hP hS
  exact lv_if_lt (x := x) (rest := st.map (wv X)) hG.1 hG.2.1 hd ht (fun hc => kt hc p e s m args below meth c n0 H ls locs hG hn hl hP hS) (fun hc => kf hc p e s m args below meth c n0 H ls locs hG hn hl hP hS)
theorem w_icmp_lt {x y : Int32} {off : Int} {tgt : Nat} (hd : decode M.2.1 pc = .ok (.if_icmp .lt off, 3)) (ht : (pc : Int) + off = (tgt : Int)) (kt : x < y → WP X M R B E nc u tgt pl st h) (kf : ¬ (x < y) → WP X M R B E nc u (pc + 3) pl st h) : WP X M R B E nc u pc pl (.int y :: .int x :: st) h := by
  intro p e s m args below meth c n0 H ls locs hG hn hl hP hS
  exact lv_icmp_lt (x := x) (y := y) (rest := st.map (wv X)) hG.1 hG.2.1 hd ht (fun hc => kt hc p e s m args below meth c n0 H ls locs hG hn hl hP hS) (fun hc => kf hc p e s m args below meth c n0 H ls locs hG hn hl hP hS)
theorem w_if_ge {x : Int32} {off : Int} {tgt : Nat} (hd : decode M.2.1 pc = .ok (.ifCond .ge off, 3)) (ht : (pc : Int) + off = (tgt : Int)) (kt : 0 ≤ x → WP X M R B E nc u tgt pl st h) (kf : ¬ (0 ≤ x) → WP X M R B E nc u (pc + 3) pl st h) : WP X M R B E nc u pc pl (.int x :: st) h := by
  intro p e s m args below meth c n0 H ls locs hG hn hl hP hS
  exact lv_if_ge (x := x) (rest := st.map (wv X)) hG.1 hG.2.1 hd ht (fun hc => kt hc p e s m args below meth c n0 H ls locs hG hn hl hP hS) (fun hc => kf hc p e s m args below meth c n0 H ls locs hG hn hl hP hS)
theorem w_icmp_ge {x y : Int32} {off : Int} {tgt : Nat} (hd : decode M.2.1 pc = .ok (.if_icmp .ge off, 3)) (ht : (pc : Int) + off = (tgt : Int)) (kt : y ≤ x → WP X M R B E nc u tgt pl st h) (kf : ¬ (y ≤ x) → WP X M R B E nc u (pc + 3) pl st h) : WP X M R B E nc u pc pl (.int y :: .int x :: st) h := by
  intro p e s m args below meth c n0 H ls locs hG hn hl hP hS
  exact lv_icmp_ge (x := x) (y := y) (rest := st.map (wv X)) hG.1 hG.2.1 hd ht (fun hc => kt hc p e s m args below meth c n0 H ls locs hG hn hl hP hS) (fun hc => kf hc p e s m args below meth c n0 H ls locs hG hn hl hP hS)
theorem w_if_gt {x : Int32} {off : Int} {tgt : Nat} (hd : decode M.2.1 pc = .ok (.ifCond .gt off, 3)) (ht : (pc : Int) + off = (tgt : Int)) (kt : 0 < x → WP X M R B E nc u tgt pl st h) (kf : ¬ (0 < x) → WP X M R B E nc u (pc + 3) pl st h) : WP X M R B E nc u pc pl (.int x :: st) h := by
  intro p e s m args below meth c n0 H ls locs hG hn hl hP hS
  exact lv_if_gt (x := x) (rest := st.map (wv X)) hG.1 hG.2.1 hd ht (fun hc => kt hc p e s m args below meth c n0 H ls locs hG hn hl hP hS) (fun hc => kf hc p e s m args below meth c n0 H ls locs hG hn hl hP hS)
theorem w_icmp_gt {x y : Int32} {off : Int} {tgt : Nat} (hd : decode M.2.1 pc = .ok (.if_icmp .gt off, 3)) (ht : (pc : Int) + off = (tgt : Int)) (kt : y < x → WP X M R B E nc u tgt pl st h) (kf : ¬ (y < x) → WP X M R B E nc u (pc + 3) pl st h) : WP X M R B E nc u pc pl (.int y :: .int x :: st) h := by
  intro p e s m args below meth c n0 H ls locs hG hn hl hP hS
  exact lv_icmp_gt (x := x) (y := y) (rest := st.map (wv X)) hG.1 hG.2.1 hd ht (fun hc => kt hc p e s m args below meth c n0 H ls locs hG hn hl hP hS) (fun hc => kf hc p e s m args below meth c n0 H ls locs hG hn hl hP hS)
theorem w_if_le {x : Int32} {off : Int} {tgt : Nat} (hd : decode M.2.1 pc = .ok (.ifCond .le off, 3)) (ht : (pc : Int) + off = (tgt : Int)) (kt : x ≤ 0 → WP X M R B E nc u tgt pl st h) (kf : ¬ (x ≤ 0) → WP X M R B E nc u (pc + 3) pl st h) : WP X M R B E nc u pc pl (.int x :: st) h := by
  intro p e s m args below meth c n0 H ls locs hG hn hl hP hS
  exact lv_if_le (x := x) (rest := st.map (wv X)) hG.1 hG.2.1 hd ht (fun hc => kt hc p e s m args below meth c n0 H ls locs hG hn hl hP hS) (fun hc => kf hc p e s m args below meth c n0 H ls locs hG hn hl hP hS)
theorem w_icmp_le {x y : Int32} {off : Int} {tgt : Nat} (hd : decode M.2.1 pc = .ok (.if_icmp .le off, 3)) (ht : (pc : Int) + off = (tgt : Int)) (kt : x ≤ y → WP X M R B E nc u tgt pl st h) (kf : ¬ (x ≤ y) → WP X M R B E nc u (pc + 3) pl st h) : WP X M R B E nc u pc pl (.int y :: .int x :: st) h := by
  intro p e s m args below meth c n0 H ls locs hG hn hl hP hS
  exact lv_icmp_le (x := x) (y := y) (rest := st.map (wv X)) hG.1 hG.2.1 hd ht (fun hc => kt hc p e s m args below meth c n0 H ls locs hG hn hl hP hS) (fun hc => kf hc p e s m args below meth c n0 H ls locs hG hn hl hP hS)
theorem w_goto {off : Int} {tgt : Nat} (hd : decode M.2.1 pc = .ok (.goto off, 3)) (ht : (pc : Int) + off = (tgt : Int)) (k : WP X M R B E nc u tgt pl st h) : WP X M R B E nc u pc pl st h := by
  intro p e s m args below meth c n0 H ls locs hG hn hl hP hS
  exact lv_goto (rest := st.map (wv X)) hG.1 hG.2.1 hd ht (k p e s m args below meth c n0 H ls locs hG hn hl hP hS)
theorem w_ifnull {q : Nat} {off : Int} (hd : decode M.2.1 pc = .ok (.ifnull off, 3)) (k : WP X M R B E nc u (pc + 3) pl st h) : WP X M R B E nc u pc pl (.ref q :: st) h := by
  intro p e s m args below meth c n0 H ls locs hG hn hl hP hS
  exact lv_ifnull (x := xa X q) (rest := st.map (wv X)) hG.1 hG.2.1 hd (k p e s m args below meth c n0 H ls locs hG hn hl hP hS)
theorem w_ifnullN {off : Int} {tgt : Nat} (hd : decode M.2.1 pc = .ok (.ifnull off, 3)) (ht : (pc : Int) + off = (tgt : Int)) (k : WP X M R B E nc u tgt pl st h) : WP X M R B E nc u pc pl (.null :: st) h := by
  intro p e s m args below meth c n0 H ls locs hG hn hl hP hS
  exact lv_ifnullN (rest := st.map (wv X)) hG.1 hG.2.1 hd ht (k p e s m args below meth c n0 H ls locs hG hn hl hP hS)
theorem w_ifnonnull {q : Nat} {off : Int} {tgt : Nat} (hd : decode M.2.1 pc = .ok (.ifnonnull off, 3)) (ht : (pc : Int) + off = (tgt : Int)) (k : WP X M R B E nc u tgt pl st h) : WP X M R B E nc u pc pl (.ref q :: st) h := by
  intro p e s m args below meth c n0 H ls locs hG hn hl hP hS
  exact lv_ifnonnull (x := xa X q) (rest := st.map (wv X)) hG.1 hG.2.1 hd ht (k p e s m args below meth c n0 H ls locs hG hn hl hP hS)
theorem w_ifnonnullN {off : Int} (hd : decode M.2.1 pc = .ok (.ifnonnull off, 3)) (k : WP X M R B E nc u (pc + 3) pl st h) : WP X M R B E nc u pc pl (.null :: st) h := by
  intro p e s m args below meth c n0 H ls locs hG hn hl hP hS
  exact lv_ifnonnullN (rest := st.map (wv X)) hG.1 hG.2.1 hd (k p e s m args below meth c n0 H ls locs hG hn hl hP hS)
theorem w_lookup {dflt : Int} {ps : Array (Int × Int)} {len : Nat} {x : Int32} {off : Int} {tgt : Nat} (hd : decode M.2.1 pc = .ok (.lookupswitch dflt ps, len)) (hp : (ps.toList.zip (ps.toList.drop 1)).all (fun (a, next) => a.1 < next.1) = true) (ho : Op.lookupswitch.offset ps.toList dflt x.toInt = off) (ht : (pc : Int) + off = (tgt : Int)) (k : WP X M R B E nc u tgt pl st h) : WP X M R B E nc u pc pl (.int x :: st) h := by
  intro p e s m args below meth c n0 H ls locs hG hn hl hP hS
  exact lv_lookup (x := x) (rest := st.map (wv X)) hG.1 hG.2.1 hd hp ho ht (k p e s m args below meth c n0 H ls locs hG hn hl hP hS)
theorem w_tableOut {dflt lo hi : Int} {offs : Array Int} {len : Nat} {x : Int32} {tgt : Nat} (hd : decode M.2.1 pc = .ok (.tableswitch dflt lo hi offs, len)) (ho : x.toInt < lo ∨ hi < x.toInt) (ht : (pc : Int) + dflt = (tgt : Int)) (k : WP X M R B E nc u tgt pl st h) : WP X M R B E nc u pc pl (.int x :: st) h := by
  intro p e s m args below meth c n0 H ls locs hG hn hl hP hS
  exact lv_tableOut (x := x) (rest := st.map (wv X)) hG.1 hG.2.1 hd ho ht (k p e s m args below meth c n0 H ls locs hG hn hl hP hS)
theorem w_tableIn {dflt lo hi : Int} {offs : Array Int} {len : Nat} {x : Int32} {off : Int} {tgt : Nat} (hd : decode M.2.1 pc = .ok (.tableswitch dflt lo hi offs, len)) (h1 : ¬ x.toInt < lo) (h2 : ¬ hi < x.toInt) (ho : offs[(x.toInt - lo).toNat]? = some off) (ht : (pc : Int) + off = (tgt : Int)) (k : WP X M R B E nc u tgt pl st h) : WP X M R B E nc u pc pl (.int x :: st) h := by
  intro p e s m args below meth c n0 H ls locs hG hn hl hP hS
  exact lv_tableIn (x := x) (rest := st.map (wv X)) hG.1 hG.2.1 hd h1 h2 ho ht (k p e s m args below meth c n0 H ls locs hG hn hl hP hS)
theorem w_ldc {i : Nat} {v : Int32} (hd : decode M.2.1 pc = .ok (.ldc i, 2)) (hw : Cond.constant M.1.cls i v ∈ wWL) (k : WP X M R B E nc u (pc + 2) pl (.int v :: st) h) : WP X M R B E nc u pc pl st h := by
  intro p e s m args below meth c n0 H ls locs hG hn hl hP hS
  exact lv_ldc (rest := st.map (wv X)) hG.1 hG.2.1 (wG_own hG) (wG_ts hG _ hw) hd (k p e s m args below meth c n0 H ls locs hG hn hl hP hS)
theorem w_ldcw {i : Nat} {v : Int32} (hd : decode M.2.1 pc = .ok (.ldc_w i, 3)) (hw : Cond.constant M.1.cls i v ∈ wWL) (k : WP X M R B E nc u (pc + 3) pl (.int v :: st) h) : WP X M R B E nc u pc pl st h := by
  intro p e s m args below meth c n0 H ls locs hG hn hl hP hS
  exact lv_ldcw (rest := st.map (wv X)) hG.1 hG.2.1 (wG_own hG) (wG_ts hG _ hw) hd (k p e s m args below meth c n0 H ls locs hG hn hl hP hS)
theorem w_ldc2 {i : Nat} {v : Int64} (hd : decode M.2.1 pc = .ok (.ldc2_w i, 3)) (hw : Cond.constantLong M.1.cls i v ∈ wWL) (k : WP X M R B E nc u (pc + 3) pl (.long v :: st) h) : WP X M R B E nc u pc pl st h := by
  intro p e s m args below meth c n0 H ls locs hG hn hl hP hS
  exact lv_ldc2 (rest := st.map (wv X)) hG.1 hG.2.1 (wG_own hG) (wG_ts hG _ hw) hd (k p e s m args below meth c n0 H ls locs hG hn hl hP hS)
theorem w_iald {q n : Nat} {f : Nat → Int32} {i : Int32} (hd : decode M.2.1 pc = .ok (.iaload, 1)) (he : h[q]? = some (.inl (0, n, .inl f))) (hi : vp_in i n) (k : WP X M R B E nc u (pc + 1) pl (.int (f i.toNatClampNeg) :: st) h) : WP X M R B E nc u pc pl (.int i :: .ref q :: st) h := by
  intro p e s m args below meth c n0 H ls locs hG hn hl hP hS
  exact va_iald (rest := st.map (wv X)) hG.1 hG.2.1 (wG_K hG) hP q 0 (ww_at X he) rfl hi hd (k p e s m args below meth c n0 H ls locs hG hn hl hP hS)
theorem w_zald {q n : Nat} {f : Nat → Int32} {i : Int32} (hd : decode M.2.1 pc = .ok (.baload, 1)) (he : h[q]? = some (.inl (2, n, .inl f))) (hi : vp_in i n) (k : WP X M R B E nc u (pc + 1) pl (.int (f i.toNatClampNeg) :: st) h) : WP X M R B E nc u pc pl (.int i :: .ref q :: st) h := by
  intro p e s m args below meth c n0 H ls locs hG hn hl hP hS
  exact va_zald (rest := st.map (wv X)) hG.1 hG.2.1 (wG_K hG) hP q 2 (ww_at X he) rfl hi hd (k p e s m args below meth c n0 H ls locs hG hn hl hP hS)
theorem w_lald {q n : Nat} {f : Nat → Int64} {i : Int32} (hd : decode M.2.1 pc = .ok (.laload, 1)) (he : h[q]? = some (.inl (1, n, .inr (.inl f)))) (hi : vp_in i n) (k : WP X M R B E nc u (pc + 1) pl (.long (f i.toNatClampNeg) :: st) h) : WP X M R B E nc u pc pl (.int i :: .ref q :: st) h := by
  intro p e s m args below meth c n0 H ls locs hG hn hl hP hS
  exact va_lald (rest := st.map (wv X)) hG.1 hG.2.1 (wG_K hG) hP q 1 (ww_at X he) rfl hi hd (k p e s m args below meth c n0 H ls locs hG hn hl hP hS)
theorem w_aald {q n t : Nat} {C : String} {f : Nat → Option Nat} {i : Int32} (hd : decode M.2.1 pc = .ok (.aaload, 1)) (he : h[q]? = some (.inl (t, n, .inr (.inr (.inr (.inr f)))))) (ht : (wty X)[t]? = some (xc X t, .object C)) (hi : vp_in i n) (k : WP X M R B E nc u (pc + 1) pl (va_rf (f i.toNatClampNeg) :: st) h) : WP X M R B E nc u pc pl (.int i :: .ref q :: st) h := by
  intro p e s m args below meth c n0 H ls locs hG hn hl hP hS
  have k9 := k p e s m args below meth c n0 H ls locs hG hn hl hP hS
  rw [List.map_cons, wv_rf] at k9
  exact va_aldq (rest := st.map (wv X)) hG.1 hG.2.1 (wG_K hG) hP q t (ww_at X he) ht hi hd k9
theorem w_alen {q t : Nat} {a : vp_A} {ty : FieldType} {v : Int32} (hd : decode M.2.1 pc = .ok (.arraylength, 1)) (he : h[q]? = some (.inl (t, a))) (ht : (wty X)[t]? = some (xc X t, ty)) (hv : Int32.ofNat a.1 = v) (k : WP X M R B E nc u (pc + 1) pl (.int v :: st) h) : WP X M R B E nc u pc pl (.ref q :: st) h := by
  intro p e s m args below meth c n0 H ls locs hG hn hl hP hS
  exact va_alen (rest := st.map (wv X)) hG.1 hG.2.1 (wG_K hG) hP q t (ww_at X he) ht (by rw [wq_len]; exact hv) hd (k p e s m args below meth c n0 H ls locs hG hn hl hP hS)
theorem w_ti {q n : Nat} {f : Nat → Int32} {i : Int32} (hd : decode M.2.1 pc = .ok (.iaload, 1)) (he : (xo X)[q]? = some (n, f)) (hi : vp_in i n) (k : WP X M R B E nc u (pc + 1) pl (.int (f i.toNatClampNeg) :: st) h) : WP X M R B E nc u pc pl (.int i :: .ref (1000 + q) :: st) h := by
  intro p e s m args below meth c n0 H ls locs hG hn hl hP hS
  exact va_ti (rest := st.map (wv X)) hG.1 hG.2.1 (wK_T (wG_W hG) he) hS hi rfl hd (k p e s m args below meth c n0 H ls locs hG hn hl hP hS)
theorem w_tlen {q n : Nat} {f : Nat → Int32} {v : Int32} (hd : decode M.2.1 pc = .ok (.arraylength, 1)) (he : (xo X)[q]? = some (n, f)) (hv : Int32.ofNat n = v) (k : WP X M R B E nc u (pc + 1) pl (.int v :: st) h) : WP X M R B E nc u pc pl (.ref (1000 + q) :: st) h := by
  intro p e s m args below meth c n0 H ls locs hG hn hl hP hS
  exact va_tlen (rest := st.map (wv X)) hG.1 hG.2.1 (wK_T (wG_W hG) he) hS hv hd (k p e s m args below meth c n0 H ls locs hG hn hl hP hS)
theorem w_iast {q n : Nat} {f : Nat → Int32} {i : Int32} {x : Int32} (hd : decode M.2.1 pc = .ok (.iastore, 1)) (he : h[q]? = some (.inl (0, n, .inl f))) (hi : vp_in i n) (k : WP X M R B E nc u (pc + 1) pl st (h.set q (.inl (0, n, .inl (upd f i.toNatClampNeg x))))) : WP X M R B E nc u pc pl (.int x :: .int i :: .ref q :: st) h := by
  intro p e s m args below meth c n0 H ls locs hG hn hl hP hS
  refine va_iast (x := x) (rest := st.map (wv X)) hG.1 hG.2.1 (wG_K hG) hP (wG_D hG hn) hS q 0 (ww_at X he) rfl hi hd (fun H1 locs1 hP1 hD1 hS1 => ?_)
  refine k p e s m args below meth c n0 H1 ls locs1 hG (wn_set hn) hl ?_ hS1
  rw [ww_set0]
  exact hP1
theorem w_zast {q n : Nat} {f : Nat → Int32} {i : Int32} {x : Int32} (hd : decode M.2.1 pc = .ok (.bastore, 1)) (he : h[q]? = some (.inl (2, n, .inl f))) (hi : vp_in i n) (k : WP X M R B E nc u (pc + 1) pl st (h.set q (.inl (2, n, .inl (upd f i.toNatClampNeg (vp_nar .boolean x)))))) : WP X M R B E nc u pc pl (.int x :: .int i :: .ref q :: st) h := by
  intro p e s m args below meth c n0 H ls locs hG hn hl hP hS
  refine va_zast (x := x) (rest := st.map (wv X)) hG.1 hG.2.1 (wG_K hG) hP (wG_D hG hn) hS q 2 (ww_at X he) rfl hi hd (fun H1 locs1 hP1 hD1 hS1 => ?_)
  refine k p e s m args below meth c n0 H1 ls locs1 hG (wn_set hn) hl ?_ hS1
  rw [ww_set0]
  exact hP1
theorem w_last {q n : Nat} {f : Nat → Int64} {i : Int32} {x : Int64} (hd : decode M.2.1 pc = .ok (.lastore, 1)) (he : h[q]? = some (.inl (1, n, .inr (.inl f)))) (hi : vp_in i n) (k : WP X M R B E nc u (pc + 1) pl st (h.set q (.inl (1, n, .inr (.inl (vp_updL f i.toNatClampNeg x)))))) : WP X M R B E nc u pc pl (.long x :: .int i :: .ref q :: st) h := by
  intro p e s m args below meth c n0 H ls locs hG hn hl hP hS
  refine va_last (x := x) (rest := st.map (wv X)) hG.1 hG.2.1 (wG_K hG) hP (wG_D hG hn) hS q 1 (ww_at X he) rfl hi hd (fun H1 locs1 hP1 hD1 hS1 => ?_)
  refine k p e s m args below meth c n0 H1 ls locs1 hG (wn_set hn) hl ?_ hS1
  rw [ww_set0]
  exact hP1
theorem w_aast {q n t ci v : Nat} {r : vw_C} {vs : List Value} {f : Nat → Option Nat} {i : Int32} (hd : decode M.2.1 pc = .ok (.aastore, 1)) (he : h[q]? = some (.inl (t, n, .inr (.inr (.inr (.inr f)))))) (ht : (wty X)[t]? = some (xc X t, .object r.1)) (hv : h[v]? = some (.inr (ci, vs))) (hc : wcl[ci]? = some r) (hi : vp_in i n) (k : WP X M R B E nc u (pc + 1) pl st (h.set q (.inl (t, n, .inr (.inr (.inr (.inr (va_up f i.toNatClampNeg (some v))))))))) : WP X M R B E nc u pc pl (.ref v :: .int i :: .ref q :: st) h := by
  intro p e s m args below meth c n0 H ls locs hG hn hl hP hS
  refine va_astq (rest := st.map (wv X)) hG.1 hG.2.1 (wG_K hG) hP (wG_D hG hn) hS q t v ci (ww_at X he) ht (ww_at X hv) hc hi hd (fun H1 locs1 hP1 hD1 hS1 => ?_)
  refine k p e s m args below meth c n0 H1 ls locs1 hG (wn_set hn) hl ?_ hS1
  rw [ww_set0]
  have e9 : we X (.inl (t, n, .inr (.inr (.inr (.inr (va_up f i.toNatClampNeg (some v))))))) = .inl (xc X t, n, .inr (.inr (.inr (.inr (va_up (fun j => (f j).map (xa X)) i.toNatClampNeg (some (xa X v))))))) := by
    simp only [we, wq, va_up]
    congr 7
    funext j
    split <;> simp_all [va_up]
  rw [e9]
  exact hP1
end WR
