theorem inR_nat {v lo hi : Int32} (h : inR v lo hi) (h0 : 0 ≤ lo.toInt) : v = nI v.toNatClampNeg ∧ (v.toNatClampNeg : Int) ≤ hi.toInt ∧ lo.toInt ≤ (v.toNatClampNeg : Int) ∧ v.toNatClampNeg < 2 ^ 31 := by
  obtain ⟨h1, h2⟩ := h
  have e0 : (0 : Int32).toInt = 0 := by decide +kernel
  have hn : ¬ v < 0 := fun q => h1 (by rw [fa_lt] at q ⊢; omega)
  obtain ⟨n, hn2, rfl⟩ := nI_of hn
  rw [gt_iff_lt, fa_lt, nI_toInt hn2] at h2
  rw [fa_lt, nI_toInt hn2] at h1
  rw [nI_clamp hn2]
  exact ⟨rfl, by omega, by omega, hn2⟩
theorem rdLoop_pos {cd : Nat → Int32} {ln : Nat} : ∀ (n : Nat) {pos na np nr : Nat} {r t : Nat → Int32}, (rdLoop cd ln n pos na np nr r t).2.1 ≤ pos + 5 * n := by
  intro n
  induction n with
  | zero => intro pos na np nr r t; exact Nat.le_refl _
  | succ n ih =>
    intro pos na np nr r t
    have b := partS_pos (cd := cd) (ln := ln) (pos := pos) (na := na) (np := np) (nr := nr) (r := r) (t := t)
    show (if pos < ln then _ else _ : Bool × PS).2.1 ≤ _
    split
    · split
      · have h2 := ih (pos := (partS cd ln pos na np nr r t).2.1) (na := (partS cd ln pos na np nr r t).2.2.1) (np := (partS cd ln pos na np nr r t).2.2.2.1) (nr := (partS cd ln pos na np nr r t).2.2.2.2.1) (r := (partS cd ln pos na np nr r t).2.2.2.2.2.1) (t := (partS cd ln pos na np nr r t).2.2.2.2.2.2)
        omega
      · show (partS cd ln pos na np nr r t).2.1 ≤ _; omega
    · exact Nat.le_add_right _ _
theorem rdAll_pos (cd : Nat → Int32) (ln : Nat) : (rdAll cd ln).2.1 ≤ 309 := by
  have h := headS_pos (cd := cd) (ln := ln) (r := p0)
  unfold rdAll
  split
  · have h2 := rdLoop_pos (cd := cd) (ln := ln) 60 (pos := (headS cd ln p0).2.1) (na := 0) (np := 0) (nr := 0) (r := (headS cd ln p0).2.2) (t := fun _ => 0)
    omega
  · show (headS cd ln p0).2.1 ≤ 309; omega
theorem rd_none {cd : Nat → Int32} {ln : Nat} (h : (if (rdAll cd ln).1 = true then (-99999999 : Int32) else nI (rdAll cd ln).2.1) = -99999999) : (rdAll cd ln).1 = true := Classical.byContradiction fun q => nI_nn (show (rdAll cd ln).2.1 < 2 ^ 31 from by have := rdAll_pos cd ln; omega) ((if_neg q).symm.trans h)
theorem rd_some {cd : Nat → Int32} {ln : Nat} (h : ¬ (if (rdAll cd ln).1 = true then (-99999999 : Int32) else nI (rdAll cd ln).2.1) = -99999999) : ¬ (rdAll cd ln).1 = true := fun q => h (if_pos q)
theorem upd_24i (r : Nat → Int32) {i : Nat} (v : Int32) (hv : v = 0 ∨ v = 1) (k : Nat) : upd (fun k => bz (r (24 + k))) i v k = bz (upd r (24 + i) v (24 + k)) := by
  unfold upd
  by_cases h : k = i
  · subst h; rw [if_pos rfl, if_pos rfl]; rcases hv with q | q <;> rw [q] <;> rfl
  · rw [if_neg h, if_neg (by omega)]
theorem inI_4 {i : Int32} (h : inI i 4) : i = 0 ∨ i = 1 ∨ i = 2 ∨ i = 3 := by
  have h1 := nI_self h.1
  have h2 := nI_ltn h.1 (by decide) (show i < nI 4 from h.2)
  have : i.toNatClampNeg = 0 ∨ i.toNatClampNeg = 1 ∨ i.toNatClampNeg = 2 ∨ i.toNatClampNeg = 3 := by omega
  rcases this with q | q | q | q <;> rw [q] at h1
  · exact Or.inl h1
  · exact Or.inr (Or.inl h1)
  · exact Or.inr (Or.inr (Or.inl h1))
  · exact Or.inr (Or.inr (Or.inr h1))
theorem inI_2 {i : Int32} (h : inI i 2) : i = 0 ∨ i = 1 := by
  have h1 := nI_self h.1
  have h2 := nI_ltn h.1 (by decide) (show i < nI 2 from h.2)
  have : i.toNatClampNeg = 0 ∨ i.toNatClampNeg = 1 := by omega
  rcases this with q | q <;> rw [q] at h1
  · exact Or.inl h1
  · exact Or.inr h1
theorem bz_of {v : Int32} (h : v = 0 ∨ v = 1) : bz v = v := by rcases h with q | q <;> rw [q] <;> rfl
