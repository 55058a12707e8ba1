/-! what the law's tests find: ranges, the page that holds together -/
theorem inR_d {v lo hi : Int32} (h : ¬ v < lo ∧ ¬ v > hi) : inR v lo hi := h
theorem ninR_d {v lo hi : Int32} (h : ¬ (¬ v < lo ∧ ¬ v > hi)) : ¬ inR v lo hi := h
theorem inI_d {v n : Int32} (h : ¬ v < 0 ∧ v < n) : inI v n := h
theorem ninI_d {v n : Int32} (h : ¬ (¬ v < 0 ∧ v < n)) : ¬ inI v n := h
theorem inR0 {n h : Nat} (hn : n ≤ h) (hh : h < 2 ^ 31) : inR (nI n) 0 (nI h) := inR_c.mpr (by rw [nI_toInt (by omega), nI_toInt hh, t_0]; omega)
theorem inR1 {n h : Nat} (h1 : 1 ≤ n) (hn : n ≤ h) (hh : h < 2 ^ 31) : inR (nI n) 1 (nI h) := inR_c.mpr (by rw [nI_toInt (by omega), nI_toInt hh, t_1]; omega)
theorem inI0 {n h : Nat} (hn : n < h) (hh : h < 2 ^ 31) : inI (nI n) (nI h) := inI_c.mpr (by rw [nI_toInt (by omega), nI_toInt hh]; omega)
theorem nI_gt0 {n : Nat} (h : n + 1 < 2 ^ 31) : ¬ nI (n + 1) ≤ 0 := fun q => by
  rw [fa_le, nI_toInt h, t_0] at q
  omega
theorem t_5 : (5 : Int32).toInt = 5 := by decide +kernel
theorem t_mil : (1000000 : Int32).toInt = 1000000 := by decide +kernel
theorem lt6_of {x : Int32} (h : x ≤ 5) : x < 6 := by rw [fa_le, t_5] at h; rw [fa_lt, t_6]; omega
theorem snd_a {r : Nat → Int32} (h : ¬ r 6 ≤ 5) : pdom r = 0 := dom0 fun q => h (by rw [fa_lt, t_6] at q; rw [fa_le, t_5]; omega)
theorem snd_b {r : Nat → Int32} (h : r 6 ≤ 5) (h7 : r 7 = 0) : pdom r = 3 := by
  show domv _ _ = 3
  unfold domv
  rw [if_pos (lt6_of h), if_pos h7]
theorem snd_c {r : Nat → Int32} (h : r 6 ≤ 5) (h7 : ¬ r 7 = 0) (h2 : ¬ r 6 ≤ 2) : pdom r = 1 := by
  show domv _ _ = 1
  unfold domv
  rw [if_pos (lt6_of h), if_neg h7, if_neg (fun q => h2 (by rw [fa_lt, t_3] at q; rw [fa_le, t_2]; omega))]
theorem snd_d {r : Nat → Int32} (h : r 6 ≤ 5) (h7 : ¬ r 7 = 0) (h2 : r 6 ≤ 2) : pdom r = 2 := by
  show domv _ _ = 2
  unfold domv
  rw [if_pos (lt6_of h), if_neg h7, if_pos (by rw [fa_le, t_2] at h2; rw [fa_lt, t_3]; omega)]
section SGF
variable {B M : Int} {P : CPg}
theorem SG_acc (h : SG B M P) (hM : M ≤ 2000000000) : lg_cmp (Int32.toInt64 (P.1 12) + Int32.toInt64 (P.1 13) + Int32.toInt64 (P.1 14) + Int32.toInt64 (P.1 15)) (Int32.toInt64 (P.1 0)) = 0 := by
  rw [lg_cmp_eq, fa_eq64]
  have hs := h.2.1.1
  have e1 : (Int32.toInt64 (P.1 12) + Int32.toInt64 (P.1 13)).toInt = (P.1 12).toInt + (P.1 13).toInt := by
    rw [fb_addL (by rw [Int32.toInt_toInt64, Int32.toInt_toInt64]; omega) (by rw [Int32.toInt_toInt64, Int32.toInt_toInt64]; omega), Int32.toInt_toInt64, Int32.toInt_toInt64]
  have e2 : (Int32.toInt64 (P.1 12) + Int32.toInt64 (P.1 13) + Int32.toInt64 (P.1 14)).toInt = (P.1 12).toInt + (P.1 13).toInt + (P.1 14).toInt := by
    rw [fb_addL (by rw [e1, Int32.toInt_toInt64]; omega) (by rw [e1, Int32.toInt_toInt64]; omega), e1, Int32.toInt_toInt64]
  rw [fb_addL (by rw [e2, Int32.toInt_toInt64]; omega) (by rw [e2, Int32.toInt_toInt64]; omega), e2, Int32.toInt_toInt64, Int32.toInt_toInt64]
  exact hs.2.1
theorem sz_I {v : Int32} (h : -2147483648 < v.toInt) : (if v < 0 then -v else v).toInt = if v.toInt < 0 then -v.toInt else v.toInt := by
  by_cases c : v < 0
  · rw [if_pos c]
    rw [fa_lt, t_0] at c
    rw [if_pos c, fb_negI (by omega)]
  · rw [if_neg c]
    rw [fa_lt, t_0] at c
    rw [if_neg c]
theorem SG_rest (h : SG B M P) : ¬ (1000000 : Int32) ≤ (if P.1 2 < 0 then -P.1 2 else P.1 2) := by
  have h2 := (SG_Cw h).2.2.1
  rw [fa_le, t_mil, sz_I (by omega)]
  split <;> omega
theorem SG_main (h : SG B M P) (h0 : pdom P.1 = 0) : P.1 28 = 0 ∧ P.1 31 = 0 ∧ P.1 34 = 0 ∧ P.1 37 = 0 := SG_Iw h (dom0' h0)
theorem SG_wait (h : SG B M P) (c1 : ¬ pdom P.1 = 1) (c2 : ¬ pdom P.1 = 2) : waitN P.1 = 0 := by
  have hz : P.1 28 = 0 ∧ P.1 31 = 0 ∧ P.1 34 = 0 ∧ P.1 37 = 0 := by
    rcases domv_or (P.1 6) (P.1 7) with q | q | q | q
    · exact SG_main h q
    · exact absurd q c1
    · exact absurd q c2
    · have := h.2.2 q
      exact ⟨this.2.2.2.2.2.1, this.2.2.2.2.2.2.1, this.2.2.2.2.2.2.2.1, this.2.2.2.2.2.2.2.2⟩
  unfold waitN
  rw [hz.1, hz.2.1, hz.2.2.1, hz.2.2.2]
  rfl
theorem SG_row6 (h : SG B M P) : ¬ (6 : Int32) < P.1 11 := fun q => by
  have := Rw_I (SG_Rw h)
  rw [fa_lt, t_6] at q
  omega
theorem SG_row6' (h : SG B M P) : P.1 11 ≤ 6 := (SG_Rw h).2
theorem SG_rowt (h : SG B M P) : ¬ P.1 8 < P.1 11 := fun q => by
  have := h.2.1.2.1.1
  rw [fa_lt] at q
  omega
theorem inI_row {r : Nat → Int32} {j : Nat} (hj : j < 6) (c : ¬ r 11 ≤ nI j) : inI (nI j) (r 11) := ⟨nI_pos (by omega), fa_of_nle c⟩
theorem SG_rows (h : SG B M P) {j : Nat} (hj : j < 6) (c : ¬ P.1 11 ≤ nI j) : (¬ P.2.2.2 0 j < 0 ∧ ¬ (3 : Int32) ≤ P.2.2.2 0 j) ∧ ¬ P.2.2.2 2 j < 0 ∧ ¬ (3 : Int32) ≤ P.2.2.2 2 j := by
  have q := h.2.1.2.2.2.2.2 j hj (fa_of_nle c)
  rw [fa_lt, fa_le, fa_lt, fa_le, t_0, t_3]
  omega
theorem SG_z1 (h : SG B M P) (c : pdom P.1 = 3) : P.1 1 = 0 := (SG_Cw h).1 c
theorem SG_z2 (h : SG B M P) (c : pdom P.1 = 3) : P.1 2 = 0 := (h.2.2 c).2.1
theorem SG_z5 (h : SG B M P) (c : pdom P.1 = 3) : bz (P.1 5) = 0 := by rw [(h.2.2 c).2.2.1]; rfl
theorem SG_z11 (h : SG B M P) (c : pdom P.1 = 3) : P.1 11 = 0 := (h.2.2 c).2.2.2.1
theorem SG_z11' (h : SG B M P) (c : pdom P.1 = 3) : P.1 11 ≤ 0 := by rw [SG_z11 h c]; decide
theorem SG_z10 (h : SG B M P) (c : pdom P.1 = 3) : ¬ P.1 10 ≤ 0 := by
  have := (h.2.2 c).2.2.2.2.1
  rw [fa_le, t_0]
  omega
theorem SG_zr (h : SG B M P) (c : pdom P.1 = 3) {k : Nat} (h1 : 16 ≤ k) (h2 : k < 24) : P.1 k = 0 := (h.2.2 c).1 k h1 h2
end SGF
