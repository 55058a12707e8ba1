theorem domv_or (l c : Int32) : domv l c = 0 ∨ domv l c = 1 ∨ domv l c = 2 ∨ domv l c = 3 := by
  unfold domv
  by_cases h1 : l < 6
  · rw [if_pos h1]
    by_cases h2 : c = 0
    · rw [if_pos h2]; exact Or.inr (Or.inr (Or.inr rfl))
    · rw [if_neg h2]
      by_cases h3 : l < 3
      · rw [if_pos h3]; exact Or.inr (Or.inr (Or.inl rfl))
      · rw [if_neg h3]; exact Or.inr (Or.inl rfl)
  · rw [if_neg h1]; exact Or.inl rfl
theorem domv_nI (l c : Int32) : domv l c = nI (domv l c).toNatClampNeg := by rcases domv_or l c with h | h | h | h <;> rw [h] <;> rfl
theorem domv_lt (l c : Int32) : (domv l c).toNatClampNeg < 4 := by rcases domv_or l c with h | h | h | h <;> rw [h] <;> decide
theorem nI_self {w : Int32} (h : ¬ w < 0) : w = nI w.toNatClampNeg := by
  obtain ⟨j, hj, e⟩ := nI_of h
  rw [e, nI_clamp hj]
theorem nI_ltn {w : Int32} {n : Nat} (h : ¬ w < 0) (hn : n < 2 ^ 31) (hc : w < nI n) : w.toNatClampNeg < n := by
  obtain ⟨j, hj, e⟩ := nI_of h
  rw [e] at hc ⊢
  rw [nI_clamp hj]
  exact (nI_ltI hj hn).mp hc
def rowUp (w : Int32) (f : Nat → Int32) (v : Int32) : Nat → Int32 := if w < 6 then upd f w.toNatClampNeg v else f
def gpn (a b c : Int32) : Int32 := (if a = 0 then 0 else 1) + (if b = 0 then 0 else 1) + (if c = 0 then 0 else 1)
theorem dom0 {l c : Int32} (h : ¬ l < 6) : domv l c = 0 := by unfold domv; rw [if_neg h]
theorem dom0' {l c : Int32} (h : domv l c = 0) : ¬ l < 6 := by
  intro q
  unfold domv at h
  rw [if_pos q] at h
  by_cases h2 : c = 0
  · rw [if_pos h2] at h; exact absurd h (by decide)
  · rw [if_neg h2] at h
    by_cases h3 : l < 3
    · rw [if_pos h3] at h; exact absurd h (by decide)
    · rw [if_neg h3] at h; exact absurd h (by decide)
def Iw (r : Nat → Int32) : Prop := ¬ r 6 < 6 → r 28 = 0 ∧ r 31 = 0 ∧ r 34 = 0 ∧ r 37 = 0
theorem due_or (u v d : Int32) : due u v d = 0 ∨ due u v d = 1 := by
  unfold due
  generalize (v.toInt - u.toInt).toNat = n
  generalize u + 1 = k
  induction n generalizing k with
  | zero => exact Or.inl rfl
  | succ n ih =>
    rw [dueN]
    by_cases h : rem32 k 1440 = d
    · rw [if_pos h]; exact Or.inr rfl
    · rw [if_neg h]; exact ih _
theorem div60_le (x : Int32) : (x / 60).toInt ≤ 100000000 := by
  have h := fb_rng x
  rw [Int32.toInt_div, show (60 : Int32).toInt = 60 from rfl]
  have h1 : x.toInt.tdiv 60 ≤ 100000000 ∧ -100000000 ≤ x.toInt.tdiv 60 := by
    rcases Int.le_total 0 x.toInt with h0 | h0
    · rw [Int.tdiv_eq_ediv_of_nonneg h0]
      omega
    · have e : x.toInt.tdiv 60 = -((-x.toInt).tdiv 60) := by rw [Int.neg_tdiv, Int.neg_neg]
      rw [e, Int.tdiv_eq_ediv_of_nonneg (by omega)]
      omega
  rw [fb_bmod (by omega) (by omega)]
  exact h1.1
theorem pspend_ne (r : Nat → Int32) {k : Nat} (h0 : k ≠ 0) (h7 : k ≠ 7) (h : k < 12 ∨ 16 ≤ k) : pspend r k = r k := by
  have hd := domv_lt (r 6) (r 7)
  have h1 : pspent r k = r k := by
    show upd (upd r 0 (r 0 + 1)) (12 + (domv (r 6) (r 7)).toNatClampNeg) _ k = _
    simp only [upd]
    rw [if_neg (by omega), if_neg h0]
  unfold pspend
  by_cases h2 : pdom r = 1 ∨ pdom r = 2
  · rw [if_pos h2]; simp only [upd]; rw [if_neg h7]; exact h1
  · rw [if_neg h2]; exact h1
theorem pspend_0 (r : Nat → Int32) : pspend r 0 = r 0 + 1 := by
  have h1 : pspent r 0 = r 0 + 1 := by
    show upd (upd r 0 (r 0 + 1)) (12 + (domv (r 6) (r 7)).toNatClampNeg) _ 0 = _
    simp only [upd]
    rw [if_neg (by omega)]; rfl
  unfold pspend
  by_cases h2 : pdom r = 1 ∨ pdom r = 2
  · rw [if_pos h2]; exact h1
  · rw [if_neg h2]; exact h1
theorem pspend_7 (r : Nat → Int32) : pspend r 7 = if domv (r 6) (r 7) = 1 ∨ domv (r 6) (r 7) = 2 then r 7 - 1 else r 7 := by
  have h1 : pspent r 7 = r 7 := by
    show upd (upd r 0 (r 0 + 1)) (12 + (domv (r 6) (r 7)).toNatClampNeg) _ 7 = _
    simp only [upd]
    rw [if_neg (by omega)]; rfl
  unfold pspend
  by_cases h2 : pdom r = 1 ∨ pdom r = 2
  · rw [if_pos h2, if_pos (show domv (r 6) (r 7) = 1 ∨ domv (r 6) (r 7) = 2 from h2)]; rfl
  · rw [if_neg h2, if_neg (show ¬ (domv (r 6) (r 7) = 1 ∨ domv (r 6) (r 7) = 2) from h2)]; exact h1
theorem pspend_12 (r : Nat → Int32) (k : Nat) (hk : k < 4) : upd (fun k => r (12 + k)) (domv (r 6) (r 7)).toNatClampNeg (r (12 + (domv (r 6) (r 7)).toNatClampNeg) + 1) k = pspend r (12 + k) := by
  have h1 : pspent r (12 + k) = upd (fun k => r (12 + k)) (domv (r 6) (r 7)).toNatClampNeg (r (12 + (domv (r 6) (r 7)).toNatClampNeg) + 1) k := by
    show upd (upd r 0 (r 0 + 1)) (12 + (domv (r 6) (r 7)).toNatClampNeg) _ (12 + k) = _
    simp only [upd]
    by_cases h : k = (domv (r 6) (r 7)).toNatClampNeg
    · rw [if_pos (by omega), if_pos h]; rfl
    · rw [if_neg (by omega), if_neg h, if_neg (by omega)]
  unfold pspend
  by_cases h2 : pdom r = 1 ∨ pdom r = 2
  · rw [if_pos h2, show upd (pspent r) 7 (r 7 - 1) (12 + k) = pspent r (12 + k) from if_neg (by omega)]; exact h1.symm
  · rw [if_neg h2]; exact h1.symm
theorem pringIf_out (i : Nat) (r : Nat → Int32) {k : Nat} (h1 : k ≠ 28 + 3 * i) (h2 : k ≠ 29 + 3 * i) (h3 : k ≠ 9) : pringIf i r k = r k := by
  unfold pringIf
  by_cases h : r (28 + 3 * i) = 1
  · rw [if_pos h]; simp only [pring, upd]; rw [if_neg h3, if_neg h2, if_neg h1]
  · rw [if_neg h]
theorem pringIf_28 (i : Nat) (r : Nat → Int32) : bz (pringIf i r (28 + 3 * i)) = bz 0 := by
  unfold pringIf
  by_cases h : r (28 + 3 * i) = 1
  · rw [if_pos h]; simp only [pring, upd, if_true]; rw [if_neg (by omega), if_neg (by omega)]
  · rw [if_neg h]; unfold bz; rw [if_neg h]; rfl
theorem pringIf_29 (i : Nat) (r : Nat → Int32) : pringIf i r (29 + 3 * i) = if r (28 + 3 * i) = 1 then r (29 + 3 * i) + 1 else r (29 + 3 * i) := by
  unfold pringIf
  by_cases h : r (28 + 3 * i) = 1
  · rw [if_pos h, if_pos h]; simp only [pring, upd, if_true]; rw [if_neg (by omega)]
  · rw [if_neg h, if_neg h]
theorem pring4 (r : Nat → Int32) : pringFrom 4 0 r = pringIf 3 (pringIf 2 (pringIf 1 (pringIf 0 r))) := rfl
theorem pring4_out (r : Nat → Int32) {k : Nat} (h9 : k ≠ 9) (h : k < 28 ∨ 39 ≤ k ∨ k = 30 ∨ k = 33 ∨ k = 36) : pringFrom 4 0 r k = r k := by
  rw [pring4, pringIf_out 3 _ (by omega) (by omega) h9, pringIf_out 2 _ (by omega) (by omega) h9, pringIf_out 1 _ (by omega) (by omega) h9, pringIf_out 0 _ (by omega) (by omega) h9]
theorem pring4_28 (r : Nat → Int32) (i : Nat) (hi : i < 4) : bz (pringFrom 4 0 r (28 + 3 * i)) = bz 0 := by
  rw [pring4]
  match i, hi with
  | 0, _ => rw [pringIf_out 3 _ (by omega) (by omega) (by omega), pringIf_out 2 _ (by omega) (by omega) (by omega), pringIf_out 1 _ (by omega) (by omega) (by omega)]; exact pringIf_28 0 _
  | 1, _ => rw [pringIf_out 3 _ (by omega) (by omega) (by omega), pringIf_out 2 _ (by omega) (by omega) (by omega)]; exact pringIf_28 1 _
  | 2, _ => rw [pringIf_out 3 _ (by omega) (by omega) (by omega)]; exact pringIf_28 2 _
  | 3, _ => exact pringIf_28 3 _
theorem pring4_29 (r : Nat → Int32) (i : Nat) (hi : i < 4) : pringFrom 4 0 r (29 + 3 * i) = if r (28 + 3 * i) = 1 then r (29 + 3 * i) + 1 else r (29 + 3 * i) := by
  rw [pring4]
  match i, hi with
  | 0, _ => rw [pringIf_out 3 _ (by omega) (by omega) (by omega), pringIf_out 2 _ (by omega) (by omega) (by omega), pringIf_out 1 _ (by omega) (by omega) (by omega)]; exact pringIf_29 0 _
  | 1, _ => rw [pringIf_out 3 _ (by omega) (by omega) (by omega), pringIf_out 2 _ (by omega) (by omega) (by omega), pringIf_29 1, pringIf_out 0 _ (by omega) (by omega) (by omega), pringIf_out 0 _ (by omega) (by omega) (by omega)]
  | 2, _ => rw [pringIf_out 3 _ (by omega) (by omega) (by omega), pringIf_29 2, pringIf_out 1 _ (by omega) (by omega) (by omega), pringIf_out 0 _ (by omega) (by omega) (by omega), pringIf_out 1 _ (by omega) (by omega) (by omega), pringIf_out 0 _ (by omega) (by omega) (by omega)]
  | 3, _ => rw [pringIf_29 3, pringIf_out 2 _ (by omega) (by omega) (by omega), pringIf_out 1 _ (by omega) (by omega) (by omega), pringIf_out 0 _ (by omega) (by omega) (by omega), pringIf_out 2 _ (by omega) (by omega) (by omega), pringIf_out 1 _ (by omega) (by omega) (by omega), pringIf_out 0 _ (by omega) (by omega) (by omega)]
theorem pringIf_z (i : Nat) (r : Nat → Int32) (h : r (28 + 3 * i) = 0) : pringIf i r = r := by unfold pringIf; rw [if_neg (by rw [h]; decide)]
theorem pringIf_keep (i : Nat) (r : Nat → Int32) {k : Nat} (h : r k = 0) (hk : k = 28 ∨ k = 31 ∨ k = 34 ∨ k = 37) (hi : i < 4) : pringIf i r k = 0 := by
  by_cases h1 : k = 28 + 3 * i
  · rw [h1] at h; rw [pringIf_z i r h, h1]; exact h
  · rw [pringIf_out i r h1 (by omega) (by omega)]; exact h
theorem pring4_keep (r : Nat → Int32) {k : Nat} (h : r k = 0) (hk : k = 28 ∨ k = 31 ∨ k = 34 ∨ k = 37) : pringFrom 4 0 r k = 0 := by
  rw [pring4]
  exact pringIf_keep 3 _ (pringIf_keep 2 _ (pringIf_keep 1 _ (pringIf_keep 0 _ h hk (by omega)) hk (by omega)) hk (by omega)) hk (by omega)
theorem Iw_psettle {b : Int32} {r : Nat → Int32} (h : Iw r) : Iw (psettle b r) := by
  unfold psettle
  by_cases h1 : pdom r = b
  · rw [if_pos h1]; exact h
  · rw [if_neg h1]
    by_cases h2 : pdom r = 3
    · rw [if_pos h2]; exact fun _ => ⟨rfl, rfl, rfl, rfl⟩
    · rw [if_neg h2]
      by_cases h3 : pdom r = 0
      · rw [if_pos h3]
        have hz := h (dom0' h3)
        exact fun _ => ⟨pring4_keep r hz.1 (by omega), pring4_keep r hz.2.1 (by omega), pring4_keep r hz.2.2.1 (by omega), pring4_keep r hz.2.2.2 (by omega)⟩
      · rw [if_neg h3]; exact h
theorem Iw_pspend {r : Nat → Int32} (h : Iw r) : Iw (pspend r) := by
  intro q
  rw [pspend_ne r (by omega) (by omega) (by omega)] at q
  have hz := h q
  rw [pspend_ne r (by omega) (by omega) (by omega), pspend_ne r (by omega) (by omega) (by omega), pspend_ne r (by omega) (by omega) (by omega), pspend_ne r (by omega) (by omega) (by omega)]
  exact hz
theorem Iw_pm2 {r : Nat → Int32} (h : Iw r) : Iw (pm2 r) := Iw_psettle (Iw_pspend h)
theorem Iw_step {u v : Int32} {i : Nat} (hi : i < 4) {r : Nat → Int32} (h : Iw r) : Iw (pdueStep u v i r) := by
  unfold pdueStep
  by_cases h1 : due u v (r (27 + 3 * i)) = 1
  · rw [if_pos h1]
    by_cases h2 : pdom r = 0
    · rw [if_pos h2]
      have hz := h (dom0' h2)
      intro _
      match i, hi with
      | 0, _ => exact ⟨rfl, hz.2.1, hz.2.2.1, hz.2.2.2⟩
      | 1, _ => exact ⟨hz.1, rfl, hz.2.2.1, hz.2.2.2⟩
      | 2, _ => exact ⟨hz.1, hz.2.1, rfl, hz.2.2.2⟩
      | 3, _ => exact ⟨hz.1, hz.2.1, hz.2.2.1, rfl⟩
    · rw [if_neg h2]
      intro q
      have q6 : ¬ r 6 < 6 := by
        simp only [upd] at q
        rw [if_neg (by omega)] at q
        exact q
      exact absurd (dom0 q6) h2
  · rw [if_neg h1]; exact h
theorem Iw_pgo {r : Nat → Int32} (h : Iw r) : Iw (pgo r) := by
  have h0 : Iw (pclock r) := h
  exact Iw_step (by omega) (Iw_step (by omega) (Iw_step (by omega) (Iw_step (by omega) h0)))
theorem Iw_pminute {r : Nat → Int32} (h : Iw r) : Iw (pminute r) := by
  unfold pminute
  by_cases h1 : pdom (pm2 r) = 3
  · rw [if_pos h1]; exact Iw_pm2 h
  · rw [if_neg h1]; exact Iw_pgo (Iw_pm2 h)
theorem Iw_mins {n : Nat} {r : Nat → Int32} (h : Iw r) : Iw (minsR n r) := by
  induction n generalizing r with
  | zero => exact h
  | succ n ih => exact ih (Iw_pminute h)
