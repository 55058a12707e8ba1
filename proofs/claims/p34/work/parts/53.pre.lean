def bestL (m : Int32) (r : Nat → Int32) : Nat → Nat → Int32 → Int32
  | 0, _, b => b
  | n + 1, k, b => bestL m r n (k + 1) (nearv m (nearv m b (-nI k) r) (nI k) r)
theorem best_step {m : Int32} {r : Nat → Int32} {k : Nat} {b Q : Int32} (h : Q = bestL m r (501 - k) k b) (hk : k < 501) : Q = bestL m r (501 - (k + 1)) (k + 1) (nearv m (nearv m b (-nI k) r) (nI k) r) := by
  rw [show 501 - k = (501 - (k + 1)) + 1 by omega] at h
  exact h
theorem best_end {m : Int32} {r : Nat → Int32} {k : Nat} {b Q : Int32} (h : Q = bestL m r (501 - k) k b) (hk : 501 ≤ k) : Q = b := by
  rw [show 501 - k = 0 by omega] at h
  exact h
theorem up_at {α : Type} (f : Nat → α) {i j : Nat} (v : α) (h : j = i) : va_up f i v j = v := by subst h; exact if_pos rfl
theorem up_ne {α : Type} (f : Nat → α) {i j : Nat} (v : α) (h : j ≠ i) : va_up f i v j = f j := if_neg h
