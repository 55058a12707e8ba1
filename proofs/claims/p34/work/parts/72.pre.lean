theorem inv_d {d : Nat} (h : d ≤ 9) : ¬ inv (Int32.toInt64 (nI d)) 0 9 = 0 := by
  have : d = 0 ∨ d = 1 ∨ d = 2 ∨ d = 3 ∨ d = 4 ∨ d = 5 ∨ d = 6 ∨ d = 7 ∨ d = 8 ∨ d = 9 := by omega
  rcases this with q | q | q | q | q | q | q | q | q | q <;> subst q <;> decide +kernel
theorem inv_z {z : Int32} (h : ¬ inv (Int32.toInt64 z) 0 9 = 0) : 0 ≤ z.toInt ∧ z.toInt ≤ 9 := by
  unfold inv at h
  by_cases h1 : lg_cmp (Int32.toInt64 z) 0 < 0
  · rw [if_pos h1] at h; exact absurd rfl h
  · rw [if_neg h1] at h
    by_cases h2 : lg_cmp (Int32.toInt64 z) 9 > 0
    · rw [if_pos h2] at h; exact absurd rfl h
    · rw [lg_cmp_lt, fa_lt64, Int32.toInt_toInt64] at h1
      have h3 : ¬ (9 : Int64) < Int32.toInt64 z := fun q => h2 ((lg_cmp_gt _ _).mpr q)
      rw [fa_lt64, Int32.toInt_toInt64] at h3
      have e0 : (0 : Int64).toInt = 0 := by decide +kernel
      have e9 : (9 : Int64).toInt = 9 := by decide +kernel
      omega
theorem inv_nd {cd : Nat → Int32} {ln pos : Nat} (h : pos < ln) (hn : ¬ isDig cd ln pos) : inv (Int32.toInt64 (cd pos - 48)) 0 9 = 0 := Classical.byContradiction fun q => hn (by
  have hz := inv_z q
  have e48 : (48 : Int32).toInt = 48 := by decide +kernel
  have e57 : (57 : Int32).toInt = 57 := by decide +kernel
  have hc : cd pos = (cd pos - 48) + 48 := by rw [Int32.sub_add_cancel]
  have e : (cd pos).toInt = (cd pos - 48).toInt + 48 := by
    rw [hc, Int32.toInt_add, e48, Int32.add_sub_cancel]
    exact Int.bmod_eq_of_le (by omega) (by omega)
  refine ⟨h, ?_, ?_⟩
  · rw [fa_lt]; omega
  · rw [gt_iff_lt, fa_lt]; omega)
