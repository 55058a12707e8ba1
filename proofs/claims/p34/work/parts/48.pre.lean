theorem partS_cnt {cd : Nat → Int32} {ln pos na np nr : Nat} {r t : Nat → Int32} : (partS cd ln pos na np nr r t).2.2.1 ≤ na + 1 ∧ (partS cd ln pos na np nr r t).2.2.2.1 ≤ np + 1 ∧ (partS cd ln pos na np nr r t).2.2.2.2.1 ≤ nr + 1 := by
  unfold partS
  split
  · unfold alarmS
    split
    · split
      · exact ⟨Nat.le_succ _, Nat.le_succ _, Nat.le_succ _⟩
      · split
        · exact ⟨Nat.le_succ _, Nat.le_succ _, Nat.le_succ _⟩
        · exact ⟨Nat.le_refl _, Nat.le_succ _, Nat.le_succ _⟩
    · exact ⟨Nat.le_succ _, Nat.le_succ _, Nat.le_succ _⟩
  · split
    · unfold pinS
      split
      · split
        · exact ⟨Nat.le_succ _, Nat.le_refl _, Nat.le_succ _⟩
        · exact ⟨Nat.le_succ _, Nat.le_succ _, Nat.le_succ _⟩
      · exact ⟨Nat.le_succ _, Nat.le_succ _, Nat.le_succ _⟩
    · split
      · unfold regS
        split
        · split
          · split
            · exact ⟨Nat.le_succ _, Nat.le_succ _, Nat.le_succ _⟩
            · exact ⟨Nat.le_succ _, Nat.le_succ _, Nat.le_refl _⟩
          · exact ⟨Nat.le_succ _, Nat.le_succ _, Nat.le_succ _⟩
        · exact ⟨Nat.le_succ _, Nat.le_succ _, Nat.le_succ _⟩
      · exact ⟨Nat.le_succ _, Nat.le_succ _, Nat.le_succ _⟩
theorem rd_end {cd : Nat → Int32} {ln k pos na np nr : Nat} {r t : Nat → Int32} {Q : Bool × PS} (h : Q = rdLoop cd ln (60 - k) pos na np nr r t) (hk : 60 ≤ k) : Q = (true, pos, na, np, nr, r, t) := by
  rw [show 60 - k = 0 by omega] at h
  exact h
theorem rd_step {cd : Nat → Int32} {ln k pos na np nr : Nat} {r t : Nat → Int32} {Q : Bool × PS} (h : Q = rdLoop cd ln (60 - k) pos na np nr r t) (hk : k < 60) : Q = if pos < ln then
      if (partS cd ln pos na np nr r t).1 = true then rdLoop cd ln (60 - (k + 1)) (partS cd ln pos na np nr r t).2.1 (partS cd ln pos na np nr r t).2.2.1 (partS cd ln pos na np nr r t).2.2.2.1 (partS cd ln pos na np nr r t).2.2.2.2.1 (partS cd ln pos na np nr r t).2.2.2.2.2.1 (partS cd ln pos na np nr r t).2.2.2.2.2.2
      else (false, (partS cd ln pos na np nr r t).2)
    else (true, pos, na, np, nr, r, t) := by
  rw [show 60 - k = (60 - (k + 1)) + 1 by omega] at h
  exact h
