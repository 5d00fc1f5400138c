theorem v_tl {w1 w2 : va_W} {i : Nat} {x : Nat × va_E} (h : w1[i]? = some x) : (w1 ++ w2)[i]? = some x := by
  rw [List.getElem?_append_left (List.getElem?_eq_some_iff.mp h).1]; exact h
