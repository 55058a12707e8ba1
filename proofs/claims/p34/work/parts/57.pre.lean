/-! rows stay within 0 .. 6 -/
def Rw (r : Nat → Int32) : Prop := ¬ r 11 < 0 ∧ r 11 ≤ 6
theorem Rw_eq {r q : Nat → Int32} (h : Rw r) (e : q 11 = r 11) : Rw q := by unfold Rw; rw [e]; exact h
theorem Rw_z {q : Nat → Int32} (e : q 11 = 0) : Rw q := by unfold Rw; rw [e]; exact ⟨by decide, by decide⟩
theorem Rw_settle {b : Int32} {r : Nat → Int32} (h : Rw r) : Rw (psettle b r) := by
  unfold psettle
  split
  · exact h
  · split
    · exact Rw_z rfl
    · split
      · exact Rw_eq h (pring4_out r (by decide) (Or.inl (by decide)))
      · exact h
theorem Rw_level {v : Int32} {r : Nat → Int32} (h : Rw r) : Rw (plevel v r) := Rw_settle (Rw_eq h rfl)
theorem Rw_charge {v : Int32} {r : Nat → Int32} (h : Rw r) : Rw (pcharge v r) := Rw_settle (Rw_eq h rfl)
theorem pring_11 (i : Nat) (r : Nat → Int32) : pring i r 11 = r 11 := by
  unfold pring
  rw [← upd_gen _ _ (by decide), ← upd_gen _ _ (by omega), ← upd_gen _ _ (by omega)]
theorem pdueStep_11 (u v : Int32) (i : Nat) (r : Nat → Int32) : pdueStep u v i r 11 = r 11 := by
  unfold pdueStep
  split
  · split
    · exact pring_11 i r
    · exact (upd_gen _ _ (by omega)).symm
  · rfl
theorem pdueFrom_11 (u v : Int32) : ∀ (n i : Nat) (r : Nat → Int32), pdueFrom u v n i r 11 = r 11 := by
  intro n
  induction n with
  | zero => intro i r; rfl
  | succ n ih => intro i r; exact (ih (i + 1) _).trans (pdueStep_11 u v i r)
theorem Rw_minute {r : Nat → Int32} (h : Rw r) : Rw (pminute r) := by
  have h2 : Rw (pm2 r) := Rw_settle (Rw_eq h (pspend_ne r (by decide) (by decide) (Or.inl (by decide))))
  unfold pminute
  split
  · exact h2
  · exact Rw_eq h2 ((pdueFrom_11 _ _ 4 0 _).trans rfl)
theorem Rw_mins {n : Nat} {r : Nat → Int32} (h : Rw r) : Rw (minsR n r) := by
  induction n generalizing r with
  | zero => exact h
  | succ n ih => exact ih (Rw_minute h)
theorem Rw_tamper {p : Int32} {r : Nat → Int32} (h : Rw r) : Rw (ptamper p r) := by
  unfold ptamper
  split
  · split
    · exact h
    · unfold Rw
      rw [ptamR_11]
      obtain ⟨h1, h2⟩ := h
      have e0 : (0 : Int32).toInt = 0 := by decide +kernel
      have e6 : (6 : Int32).toInt = 6 := by decide +kernel
      have e1 : (1 : Int32).toInt = 1 := by decide +kernel
      split
      · rename_i h3
        rw [fa_lt] at h1 h3
        rw [fa_lt, fa_le, Int32.toInt_add, Int.bmod_eq_of_le (by omega) (by omega)]
        omega
      · exact ⟨h1, h2⟩
  · exact h
theorem Iw_upd {r : Nat → Int32} {i : Nat} {v : Int32} (h : Iw r) (h6 : i ≠ 6) (h8 : i ≠ 28) (h1 : i ≠ 31) (h4 : i ≠ 34) (h7 : i ≠ 37) : Iw (upd r i v) := by
  unfold Iw
  rw [← upd_gen r v (Ne.symm h6), ← upd_gen r v (Ne.symm h8), ← upd_gen r v (Ne.symm h1), ← upd_gen r v (Ne.symm h4), ← upd_gen r v (Ne.symm h7)]
  exact h
