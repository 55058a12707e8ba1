/-! the reference's scripts and simulations -/
theorem invL_y {a : Nat} {hi : Int64} {n : Int} (ha : a < 2 ^ 63) (hh : hi.toInt = n) (h : (a : Int) ≤ n) : ¬ inv (lN a) 0 hi = 0 := by
  have e0 : (0 : Int64).toInt = 0 := by decide +kernel
  rw [inv_c, pk_lT ha, e0, hh]
  omega
theorem invL_n {a : Nat} {hi : Int64} {n : Int} (ha : a < 2 ^ 63) (hh : hi.toInt = n) (h : ¬ (a : Int) ≤ n) : inv (lN a) 0 hi = 0 := Classical.byContradiction fun q => h (by
  rw [inv_c, pk_lT ha, hh] at q
  exact q.2)
theorem invR_r {v lo hi : Int32} {a b : Int64} (h : ¬ inv (Int32.toInt64 v) a b = 0) (ha : a.toInt = lo.toInt) (hb : b.toInt = hi.toInt) : inR v lo hi := by
  rw [inv_c, ha, hb, Int32.toInt_toInt64] at h
  exact inR_c.mpr h
def simI2 (K : Int64 → Int64) (N : Int64 → Nat) (m k : Nat) (s s2 : Int64) (r rr : Nat → Int32) (x xx y yy : Int64) : Prop :=
  simR K N m s r = simR K N (m - k) s2 rr ∧ simX K N m s r x = simX K N (m - k) s2 rr xx ∧ simY K N m s r y = simY K N (m - k) s2 rr yy
theorem sim2_end {K : Int64 → Int64} {N : Int64 → Nat} {m k : Nat} {s s2 : Int64} {r rr : Nat → Int32} {x xx y yy : Int64} (h : simI2 K N m k s s2 r rr x xx y yy) (hk : m ≤ k) : simR K N m s r = rr ∧ simX K N m s r x = xx ∧ simY K N m s r y = yy := by
  unfold simI2 at h
  rw [show m - k = 0 by omega] at h
  exact h
theorem sim2_step {K : Int64 → Int64} {N : Int64 → Nat} {m k : Nat} {s s2 : Int64} {r rr : Nat → Int32} {x xx y yy : Int64} (h : simI2 K N m k s s2 r rr x xx y yy) (hk : k < m) : simI2 K N m (k + 1) s (K s2) r (simS (N (K s2)) rr) x (minsX (1 + N (K s2) / 64 % 60) (simQ (N (K s2)) rr) xx) y (minsY (1 + N (K s2) / 64 % 60) (simQ (N (K s2)) rr) yy) := by
  unfold simI2 at h ⊢
  rw [show m - k = (m - (k + 1)) + 1 by omega] at h
  exact h
