theorem P_at {D : va_G} {ws ws' : va_W} {H : Heap} (i : Nat) {e1 e2 : Nat × va_E} (he : va_at D vwCl e1 H → va_at D vwCl e2 H) (h1 : ws[i]? = some e1) (h2 : ws' = ws.set i e2) (hP : va_P D vwCl ws H) : va_P D vwCl ws' H := by
  subst h2
  have hi := (List.getElem?_eq_some_iff.mp h1).1
  have e : ws = ws.set i e1 := by
    apply List.ext_getElem?
    intro j
    by_cases hj : j = i
    · subst hj; rw [h1, List.getElem?_set_self hi]
    · rw [List.getElem?_set_ne (Ne.symm hj)]
  rw [e] at hP
  exact P_setc hi hP he
