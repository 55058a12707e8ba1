theorem ix_add (a : Nat) {w : Int32} (h : ¬ w < 0) : nI a + w = nI (a + w.toNatClampNeg) := by
  have e := nI_self h
  generalize w.toNatClampNeg = j at e ⊢
  rw [e]
  exact nI_add a j
theorem ix_row39 {w : Int32} (h : ¬ w < 0) : (39 : Int32) + 3 * w = nI (39 + 3 * w.toNatClampNeg) := by
  have e := nI_self h
  generalize w.toNatClampNeg = j at e ⊢
  rw [e]
  exact (congrArg (fun z => nI 39 + z) (nI_mul 3 j)).trans (nI_add 39 (3 * j))
theorem ix_row40 {w : Int32} (h : ¬ w < 0) : (39 : Int32) + 3 * w + 1 = nI (40 + 3 * w.toNatClampNeg) := by
  rw [ix_row39 h]
  exact (nI_add _ 1).trans (congrArg nI (by omega))
theorem ix_row41 {w : Int32} (h : ¬ w < 0) : (39 : Int32) + 3 * w + 2 = nI (41 + 3 * w.toNatClampNeg) := by
  rw [ix_row39 h]
  exact (nI_add _ 2).trans (congrArg nI (by omega))
def psetAl (i : Nat) (v : Int32) (r : Nat → Int32) : Nat → Int32 := upd (upd r (27 + 3 * i) (if v = 1440 then -99999999 else v)) (28 + 3 * i) 0
def inv (v lo hi : Int64) : Int32 := if lg_cmp v lo < 0 then 0 else if lg_cmp v hi > 0 then 0 else 1
theorem inv_or (v lo hi : Int64) : inv v lo hi = 0 ∨ inv v lo hi = 1 := by
  unfold inv
  by_cases h1 : lg_cmp v lo < 0
  · rw [if_pos h1]; exact Or.inl rfl
  · rw [if_neg h1]
    by_cases h2 : lg_cmp v hi > 0
    · rw [if_pos h2]; exact Or.inl rfl
    · rw [if_neg h2]; exact Or.inr rfl
theorem inv_nar (v lo hi : Int64) : narrow .boolean (.int (inv v lo hi)) = .int (inv v lo hi) := by rcases inv_or v lo hi with h | h <;> rw [h] <;> rfl
theorem cpy_0 {α : Type} (f g : Nat → α) (sp dp : Nat) : va_cpy f g sp dp 0 = g := by
  funext k
  unfold va_cpy
  rw [if_neg (by omega)]
theorem cpy_succ (f g : Nat → Int32) (sp dp n : Nat) : upd (va_cpy f g sp dp n) (dp + n) (f (sp + n)) = va_cpy f g sp dp (n + 1) := by
  funext k
  simp only [upd, va_cpy]
  by_cases h : k = dp + n
  · rw [if_pos h, if_pos (by omega)]
    congr 1
    omega
  · rw [if_neg h]
    by_cases h2 : dp ≤ k ∧ k < dp + n
    · rw [if_pos h2, if_pos (by omega)]
    · rw [if_neg h2, if_neg (by omega)]
theorem cpy_page (f g : Nat → Int32) (k : Nat) (hk : k < 57) : va_cpy f g 0 0 57 k = f k := by
  unfold va_cpy
  rw [if_pos (by omega)]
  congr 1
  omega
def zerosTo (i : Nat) (r : Nat → Int32) : Nat → Int32 := fun k => if k < i then 0 else r k
theorem zerosTo_succ (i : Nat) (r : Nat → Int32) : upd (zerosTo i r) i 0 = zerosTo (i + 1) r := by
  funext k
  simp only [upd, zerosTo]
  by_cases h : k = i
  · rw [if_pos h, if_pos (by omega)]
  · rw [if_neg h]
    by_cases h2 : k < i
    · rw [if_pos h2, if_pos (by omega)]
    · rw [if_neg h2, if_neg (by omega)]
theorem zerosTo_0 (r : Nat → Int32) : zerosTo 0 r = r := by
  funext k
  unfold zerosTo
  rw [if_neg (by omega)]
