theorem w_pl {X : wX} {M : wM} {R : Room} {B : Nat} {E : wN} {nc u pc : Nat} {pl pl' : List (Option Value)} {st : List Value} {h : wH} (e : pl = pl') (k : WP X M R B E nc u pc pl' st h) : WP X M R B E nc u pc pl st h := by
  rw [e]
  exact k
