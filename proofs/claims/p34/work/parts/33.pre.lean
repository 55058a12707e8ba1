theorem at_aa {D : va_G} {ty : Nat → ClassId} {a n : Nat} {f g : Nat → Option Nat} {H : Heap} (h : ∀ k, k < n → f k = g k) (hA : va_at D vwCl (aa ty a n f) H) : va_at D vwCl (aa ty a n g) H := by
  have e : vp_cell (ty 4) ((n, .inr (.inr (.inr (.inr f)))) : vp_A) = vp_cell (ty 4) ((n, .inr (.inr (.inr (.inr g)))) : vp_A) := by
    rw [vp_cell_q, vp_cell_q]
    unfold arrV
    congr 1
    apply Array.ext
    · simp
    · intro i h1 h2
      have hi : i < n := by simpa using h1
      simp [h i hi]
  exact hA.trans (congrArg some e)
theorem at_sa {D : va_G} {ty : Nat → ClassId} {a n : Nat} {f g : Nat → Option Nat} {H : Heap} (h : ∀ k, k < n → f k = g k) (hA : va_at D vwCl (sa ty a n f) H) : va_at D vwCl (sa ty a n g) H := by
  have e : vp_cell (ty 3) ((n, .inr (.inr (.inr (.inr f)))) : vp_A) = vp_cell (ty 3) ((n, .inr (.inr (.inr (.inr g)))) : vp_A) := by
    rw [vp_cell_q, vp_cell_q]
    unfold arrV
    congr 1
    apply Array.ext
    · simp
    · intro i h1 h2
      have hi : i < n := by simpa using h1
      simp [h i hi]
  exact hA.trans (congrArg some e)
