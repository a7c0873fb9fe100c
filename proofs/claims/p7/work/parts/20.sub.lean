theorem sm_sub {D : ft_G} {y pc : Nat} {lv lv' : List (Nat × Value)} {st : List Value} {h : ft_H} {uc us : Nat} {Q : Option Value → ft_H → Prop} (ks : List Nat) (hl : lv_pick lv ks = lv') (k : sm D y pc lv' st h uc us Q) : sm D y pc lv st h uc us Q := by
  intro p l e R s m args below meth c H locs Z ls C rt hls hA hS
  exact k p l e R s m args below meth c H locs Z ls C rt (lv_sub hls ks hl) hA hS
theorem ft_nb {b : Nat} (hb : b ≤ 1) : narrow .boolean (.int (nI b)) = .int (nI b) := by
  rcases (show b = 0 ∨ b = 1 by omega) with rfl | rfl <;> rfl
