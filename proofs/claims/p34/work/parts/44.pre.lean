/-! the text: what is read of it; a state of the reading: position, alarms, pins, registers told, the page, the registers told -/
def hereV (cd : Nat → Int32) (ln pos : Nat) : Int32 := if pos < ln then cd pos else -99999999
abbrev isDig (cd : Nat → Int32) (ln pos : Nat) : Prop := pos < ln ∧ ¬ cd pos < 48 ∧ ¬ cd pos > 57
def digN (cd : Nat → Int32) (pos : Nat) : Nat := (cd pos - 48).toNatClampNeg
theorem dig_nI {cd : Nat → Int32} {ln pos : Nat} (h : isDig cd ln pos) : cd pos - 48 = nI (digN cd pos) ∧ digN cd pos ≤ 9 := by
  obtain ⟨-, h1, h2⟩ := h
  rw [fa_lt] at h1
  rw [gt_iff_lt, fa_lt] at h2
  have e48 : (48 : Int32).toInt = 48 := by decide +kernel
  have e57 : (57 : Int32).toInt = 57 := by decide +kernel
  rw [e48] at h1
  rw [e57] at h2
  have e : (cd pos - 48).toInt = (cd pos).toInt - 48 := by
    rw [Int32.toInt_sub, e48]
    exact Int.bmod_eq_of_le (by omega) (by omega)
  have hn : ¬ cd pos - 48 < 0 := by
    rw [fa_lt, e]
    have e0 : (0 : Int32).toInt = 0 := by decide +kernel
    omega
  refine ⟨nI_self hn, ?_⟩
  have h9 : digN cd pos < 10 := nI_ltn hn (by decide) (by
    rw [fa_lt, e]
    have e10 : (nI 10).toInt = 10 := by decide +kernel
    omega)
  omega
theorem nI_nn {n : Nat} (h : n < 2 ^ 31) : ¬ nI n = -99999999 := by
  rw [fa_eq, nI_toInt h]
  have e : (-99999999 : Int32).toInt = -99999999 := by decide +kernel
  omega
def onV (o : Option Nat) : Int32 := match o with | none => -99999999 | some n => nI n
def numV (cd : Nat → Int32) (ln : Nat) : List Nat → Nat → Nat → Nat → Option Nat
  | [], _, acc, _ => some acc
  | u :: us, hi, acc, pos => if isDig cd ln pos ∧ acc + digN cd pos * u ≤ hi then numV cd ln us hi (acc + digN cd pos * u) (pos + 1) else none
def numP (cd : Nat → Int32) (ln : Nat) : List Nat → Nat → Nat → Nat → Nat
  | [], _, _, pos => pos
  | u :: us, hi, acc, pos => if isDig cd ln pos ∧ acc + digN cd pos * u ≤ hi then numP cd ln us hi (acc + digN cd pos * u) (pos + 1) else pos
theorem numV_y {cd : Nat → Int32} {ln : Nat} {u : Nat} {us : List Nat} {hi acc pos : Nat} (h : isDig cd ln pos ∧ acc + digN cd pos * u ≤ hi) : numV cd ln (u :: us) hi acc pos = numV cd ln us hi (acc + digN cd pos * u) (pos + 1) ∧ numP cd ln (u :: us) hi acc pos = numP cd ln us hi (acc + digN cd pos * u) (pos + 1) := ⟨if_pos h, if_pos h⟩
theorem numV_n {cd : Nat → Int32} {ln : Nat} {u : Nat} {us : List Nat} {hi acc pos : Nat} (h : ¬ (isDig cd ln pos ∧ acc + digN cd pos * u ≤ hi)) : numV cd ln (u :: us) hi acc pos = none ∧ numP cd ln (u :: us) hi acc pos = pos := ⟨if_neg h, if_neg h⟩
theorem numV_le {cd : Nat → Int32} {ln : Nat} : ∀ {us : List Nat} {hi acc pos n : Nat}, numV cd ln us hi acc pos = some n → acc ≤ hi → n ≤ hi := by
  intro us
  induction us with
  | nil => intro hi acc pos n h h2; cases h; exact h2
  | cons u us ih =>
    intro hi acc pos n h h2
    by_cases hc : isDig cd ln pos ∧ acc + digN cd pos * u ≤ hi
    · exact ih ((numV_y hc).1.symm.trans h) hc.2
    · exact absurd ((numV_n hc).1.symm.trans h) (by simp)
theorem numP_in {cd : Nat → Int32} {ln : Nat} : ∀ {us : List Nat} {hi acc pos : Nat}, pos ≤ numP cd ln us hi acc pos ∧ numP cd ln us hi acc pos ≤ pos + us.length ∧ (pos ≤ ln → numP cd ln us hi acc pos ≤ ln) := by
  intro us
  induction us with
  | nil => intro hi acc pos; exact ⟨Nat.le_refl _, Nat.le_refl _, id⟩
  | cons u us ih =>
    intro hi acc pos
    by_cases hc : isDig cd ln pos ∧ acc + digN cd pos * u ≤ hi
    · rw [(numV_y hc).2]
      have h := ih (hi := hi) (acc := acc + digN cd pos * u) (pos := pos + 1)
      have h1 := hc.1.1
      refine ⟨by omega, by rw [List.length_cons]; omega, fun _ => h.2.2 (by omega)⟩
    · rw [(numV_n hc).2]
      exact ⟨Nat.le_refl _, Nat.le_add_right _ _, id⟩
theorem opt_or {α : Type} (o : Option α) : o = none ∨ ∃ n, o = some n := by
  cases o with
  | none => exact Or.inl rfl
  | some n => exact Or.inr ⟨n, rfl⟩
abbrev PS : Type := Nat × Nat × Nat × Nat × (Nat → Int32) × (Nat → Int32)
