/-! the reference's face: ranges, the diary -/
theorem inv_c {v a b : Int64} : ¬ inv v a b = 0 ↔ a.toInt ≤ v.toInt ∧ v.toInt ≤ b.toInt := by
  unfold inv
  by_cases h1 : lg_cmp v a < 0
  · rw [if_pos h1]
    rw [lg_cmp_lt, fa_lt64] at h1
    exact ⟨fun q => absurd rfl q, fun q => absurd q.1 (by omega)⟩
  · rw [if_neg h1]
    rw [lg_cmp_lt, fa_lt64] at h1
    by_cases h2 : lg_cmp v b > 0
    · rw [if_pos h2]
      have h3 : b < v := (lg_cmp_gt _ _).mp h2
      rw [fa_lt64] at h3
      exact ⟨fun q => absurd rfl q, fun q => absurd q.2 (by omega)⟩
    · rw [if_neg h2]
      have h3 : ¬ b < v := fun q => h2 ((lg_cmp_gt _ _).mpr q)
      rw [fa_lt64] at h3
      exact ⟨fun _ => ⟨by omega, by omega⟩, fun _ => by decide⟩
theorem inR_c {v lo hi : Int32} : inR v lo hi ↔ lo.toInt ≤ v.toInt ∧ v.toInt ≤ hi.toInt := by
  unfold inR
  rw [gt_iff_lt, fa_lt, fa_lt]
  omega
theorem inI_c {v n : Int32} : inI v n ↔ 0 ≤ v.toInt ∧ v.toInt < n.toInt := by
  unfold inI
  rw [fa_lt, fa_lt]
  have e0 : (0 : Int32).toInt = 0 := by decide +kernel
  omega
theorem invR_y {v lo hi : Int32} {a b : Int64} (h : inR v lo hi) (ha : a.toInt = lo.toInt) (hb : b.toInt = hi.toInt) : ¬ inv (Int32.toInt64 v) a b = 0 := by
  rw [inv_c, ha, hb, Int32.toInt_toInt64]
  exact inR_c.mp h
theorem invR_n {v lo hi : Int32} {a b : Int64} (h : ¬ inR v lo hi) (ha : a.toInt = lo.toInt) (hb : b.toInt = hi.toInt) : inv (Int32.toInt64 v) a b = 0 := Classical.byContradiction fun q => h (by
  rw [inv_c, ha, hb, Int32.toInt_toInt64] at q
  exact inR_c.mpr q)
theorem invI_y {v n : Int32} {a b : Int64} (h : inI v n) (ha : a.toInt = 0) (hb : b.toInt = n.toInt - 1) : ¬ inv (Int32.toInt64 v) a b = 0 := by
  rw [inv_c, ha, hb, Int32.toInt_toInt64]
  have := inI_c.mp h
  omega
theorem invI_n {v n : Int32} {a b : Int64} (h : ¬ inI v n) (ha : a.toInt = 0) (hb : b.toInt = n.toInt - 1) : inv (Int32.toInt64 v) a b = 0 := Classical.byContradiction fun q => h (by
  rw [inv_c, ha, hb, Int32.toInt_toInt64] at q
  exact inI_c.mpr (by omega))
theorem row_1 {w : Int32} (h0 : ¬ w < 0) (h6 : w ≤ 6) : (Int32.toInt64 (w - 1)).toInt = w.toInt - 1 := by
  have e0 : (0 : Int32).toInt = 0 := by decide +kernel
  have e1 : (1 : Int32).toInt = 1 := by decide +kernel
  have e6 : (6 : Int32).toInt = 6 := by decide +kernel
  rw [fa_lt] at h0
  rw [fa_le] at h6
  rw [Int32.toInt_toInt64, fb_subI (by omega) (by omega), e1]
def shI (n i : Nat) (d : Nat → Int32) : Nat → Int32 := fun k => if k < i then d (k + n) else d k
def shL (n i : Nat) (d : Nat → Int64) : Nat → Int64 := fun k => if k < i then d (k + n) else d k
theorem shI_0 (n : Nat) (d : Nat → Int32) : shI n 0 d = d := by funext k; exact if_neg (Nat.not_lt_zero k)
theorem shL_0 (n : Nat) (d : Nat → Int64) : shL n 0 d = d := by funext k; exact if_neg (Nat.not_lt_zero k)
theorem shI_succ (n i : Nat) (d : Nat → Int32) : upd (shI n i d) i (shI n i d (i + n)) = shI n (i + 1) d := by
  funext k
  simp only [upd, shI]
  by_cases h : k = i
  · subst h; rw [if_pos rfl, if_neg (by omega), if_pos (by omega)]
  · rw [if_neg h]
    by_cases h2 : k < i
    · rw [if_pos h2, if_pos (by omega)]
    · rw [if_neg h2, if_neg (by omega)]
theorem shL_succ (n i : Nat) (d : Nat → Int64) : vp_updL (shL n i d) i (shL n i d (i + n)) = shL n (i + 1) d := by
  funext k
  simp only [vp_updL, shL]
  by_cases h : k = i
  · subst h; rw [if_pos rfl, if_neg (by omega), if_pos (by omega)]
  · rw [if_neg h]
    by_cases h2 : k < i
    · rw [if_pos h2, if_pos (by omega)]
    · rw [if_neg h2, if_neg (by omega)]
def noteD (cn : Nat) (dd r : Nat → Int32) : Nat → Int32 := if cn < 14 then va_cpy r dd 0 (57 * cn) 57 else va_cpy r (shI 57 741 dd) 0 741 57
def noteS (cn : Nat) (ds : Nat → Int64) (x y : Int64) : Nat → Int64 := if cn < 14 then vp_updL (vp_updL ds (2 * cn) x) (2 * cn + 1) y else vp_updL (vp_updL (shL 2 26 ds) 26 x) 27 y
theorem remC_y {cn : Nat} (h : cn < 14) : remC cn = cn + 1 := if_pos h
theorem remC_n {cn : Nat} (h : ¬ cn < 14) : remC cn = 14 := if_neg h
def mtell (r : Nat → Int32) (w : Int32) : Int32 :=
  if w = 5 then poff r else if w = 6 then r 5 else if w = 7 then r 6 else if w = 8 then r 7 else if w = 9 then pdom r else if w = 10 then r 11 else if w = 11 then r 8 else if w = 12 then r 9 else if w = 13 then 0 + r 28 + r 31 + r 34 + r 37 else if w = 14 then r 10 else r w.toNatClampNeg
def mahead (r : Nat → Int32) (w : Int32) : Int32 := if w = 0 then r 1 else if w = 1 then r 2 else if w = 2 then poff r else if w = 3 then r 7 else if w = 4 then pdom r else r 9
theorem acc45 {w : Int32} (h : inR w 0 5) (h4 : w ≥ 4) : w = 4 ∨ w = 5 := by
  have h1 := inR_c.mp h
  have e4 : (4 : Int32).toInt = 4 := by decide +kernel
  have e5 : (5 : Int32).toInt = 5 := by decide +kernel
  rw [ge_iff_le, fa_le, e4] at h4
  rw [e5] at h1
  rcases (show w.toInt = 4 ∨ w.toInt = 5 by omega) with q | q
  · exact Or.inl (Int32.toInt_inj.mp (q.trans e4.symm))
  · exact Or.inr (Int32.toInt_inj.mp (q.trans e5.symm))
theorem cpyB (f g : Nat → Int32) (s : Nat) (rn : Nat → Int32) (h : ∀ k, k < 57 → f (s + k) = rn k) (k : Nat) (hk : k < 57) : va_cpy f g s 0 57 k = rn k := by
  unfold va_cpy
  rw [if_pos (by omega), show s + (k - 0) = s + k by omega]
  exact h k hk
