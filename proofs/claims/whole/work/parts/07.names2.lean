/-! small helps of the walks -/
theorem wS_eq {h h1 : wH} {q : Nat} {e e0 : wE} (e1 : h1 = h.set q e) (he : h[q]? = some e0) : h1[q]? = some e := by
  rw [e1, List.getElem?_set_self (List.getElem?_eq_some_iff.mp he).1]
theorem wS_ne {h h1 : wH} {q p : Nat} {e x : wE} (e1 : h1 = h.set q e) (hne : q ≠ p) (he : h[p]? = some x) : h1[p]? = some x := by
  rw [e1, List.getElem?_set_ne hne]
  exact he
theorem wS_off {h h1 : wH} {q p : Nat} {e : wE} (e1 : h1 = h.set q e) (hne : p ≠ q) : h1[p]? = h[p]? := by
  rw [e1, List.getElem?_set_ne (fun z => hne z.symm)]
section WN
variable {X : wX} {M : wM} {R : Room} {B : Nat} {E : wN} {nc u pc : Nat} {pl : List (Option Value)} {st : List Value} {h : wH}
theorem w_nm (k : ∀ h1, h1 = h → WP X M R B E nc u pc pl st h1) : WP X M R B E nc u pc pl st h := k h rfl
theorem w_topi {x y : Int32} (e : x = y) (k : WP X M R B E nc u pc pl (.int y :: st) h) : WP X M R B E nc u pc pl (.int x :: st) h := by rw [e]; exact k
theorem w_topl {x y : Int64} (e : x = y) (k : WP X M R B E nc u pc pl (.long y :: st) h) : WP X M R B E nc u pc pl (.long x :: st) h := by rw [e]; exact k
end WN
theorem oInit1 : Cond.instanceMethod Lib.objectInit ∈ wWL := wIn 22 (by decide +kernel) (by decide +kernel)
theorem oInit2 : Cond.code Lib.objectInit ⟨#[0xb1]⟩ 1 none ∈ wWL := wIn 23 rfl (by decide +kernel)
theorem aCopy1 : Cond.native arraycopyName ∈ wWL := wIn 246 (by decide +kernel) (by decide +kernel)
theorem aCopy2 : Cond.static arraycopyName ∈ wWL := wIn 245 (by decide +kernel) (by decide +kernel)
theorem aCopy3 : Cond.initialized "java/lang/System" ∈ wWL := wIn 9 (by decide +kernel) (by decide +kernel)
theorem wArrI : Cond.arrayClass .int ∈ wWL := wIn 41 (by decide +kernel) (by decide +kernel)
theorem wArrJ : Cond.arrayClass .long ∈ wWL := wIn 70 (by decide +kernel) (by decide +kernel)
theorem wArrZ : Cond.arrayClass .boolean ∈ wWL := wIn 703 (by decide +kernel) (by decide +kernel)
theorem PM.at {X : wX} {M : wM} {d mc ms : Nat} {as : List Value} {h : wH} {Q : Option Value → wH → Prop} {pl : List (Option Value)} (hy : plainName M.1.cls = true) (hlen : Nat.ble (wen as).length M.2.2.1 = true) (hle : wle pl (wen as)) (k : WP X M (wR d mc ms) mc (wEm X mc ms Q) 0 0 0 pl [] h) : PM X M d mc ms as h Q := PM.of hy hlen (w_le hle k)
