/-! p34: the words of told -/
def sgv (x : Int32) : Int32 := if x < 0 then 45 else 43
theorem sgv_or (x : Int32) : sgv x = 43 ∨ sgv x = 45 := by
  unfold sgv
  split
  · exact Or.inr rfl
  · exact Or.inl rfl
theorem sgv_in (x : Int32) : inR (sgv x) 0 255 := by
  rcases sgv_or x with q | q <;> rw [q] <;> exact inR_d (by decide +kernel)
theorem err_n {k : Nat} (hk : k ≤ 1000) : ∃ e : Nat, e ≤ 500 ∧ (if nI k - 500 < 0 then -(nI k - 500) else nI k - 500) = nI e ∧ (if sgv (nI k - 500) = 45 then -nI e else nI e) = nI k - 500 := by
  have ek := nI_toInt (n := k) (by omega)
  have e5 : (500 : Int32).toInt = 500 := by decide +kernel
  have ev : (nI k - 500).toInt = (k : Int) - 500 := by rw [fb_subI (by rw [ek, e5]; omega) (by rw [ek, e5]; omega), ek, e5]
  by_cases h : k < 500
  · have hn : nI k - 500 < 0 := by rw [fa_lt, ev, t_0]; omega
    have en := nI_toInt (n := 500 - k) (by omega)
    have hm : -(nI k - 500) = nI (500 - k) := by rw [fa_eq, fb_negI (by rw [ev]; omega), ev, en]; omega
    refine ⟨500 - k, by omega, by rw [if_pos hn]; exact hm, ?_⟩
    have hs : sgv (nI k - 500) = 45 := if_pos hn
    rw [if_pos hs, ← hm, fa_eq, fb_negI, fb_negI (by rw [ev]; omega), ev]
    · omega
    · rw [fb_negI (by rw [ev]; omega), ev]; omega
  · have hn : ¬ nI k - 500 < 0 := by rw [fa_lt, ev, t_0]; omega
    have en := nI_toInt (n := k - 500) (by omega)
    have hm : nI k - 500 = nI (k - 500) := by rw [fa_eq, ev, en]; omega
    refine ⟨k - 500, by omega, by rw [if_neg hn]; exact hm, ?_⟩
    have hs : sgv (nI k - 500) = 43 := if_neg hn
    rw [hs, if_neg (by decide)]; exact hm.symm
def chv (n : Nat) : Nat := if n % 2 = 0 then n % 200 else n % 9000
theorem chv_lt (n : Nat) : chv n < 9000 := by
  unfold chv
  split <;> omega
theorem chv_y {n : Nat} (h : nI (n % 2) = 0) : nI (n % 200) = nI (chv n) := congrArg nI (if_pos ((nI_eq (a := n % 2) (b := 0) (by omega) (by decide)).mp h)).symm
theorem chv_n {n : Nat} (h : ¬ nI (n % 2) = 0) : nI (n % 9000) = nI (chv n) := congrArg nI (if_neg (fun e => h (congrArg nI e))).symm
section TOLD
variable {cd d : Nat → Int32} {pos na np nr : Nat} {r t : Nat → Int32}
theorem RdP_up1 (h : RdP cd pos na np nr r t) {i : Nat} {v : Int32} (hd : d = upd cd i v) (hi : pos ≤ i) : RdP d pos na np nr r t := by rw [hd]; exact RdP_up h hi
theorem RdP_up2 (h : RdP cd pos na np nr r t) {i j : Nat} {v w : Int32} (hd : d = upd (upd cd i v) j w) (hi : pos ≤ i) (hj : pos ≤ j) : RdP d pos na np nr r t := by rw [hd]; exact RdP_up (RdP_up h hi) hj
theorem RdP_up3 (h : RdP cd pos na np nr r t) {i j k : Nat} {v w x : Int32} (hd : d = upd (upd (upd cd i v) j w) k x) (hi : pos ≤ i) (hj : pos ≤ j) (hk : pos ≤ k) : RdP d pos na np nr r t := by rw [hd]; exact RdP_up (RdP_up (RdP_up h hi) hj) hk
end TOLD
theorem bz_reg {r : Nat → Int32} {k : Nat} {v : Int32} (hk : k < 8) (h : bz (r 24) = 0) : bz (upd r (16 + k) v (24 + 0)) = 0 := by
  rw [show upd r (16 + k) v (24 + 0) = r 24 from (upd_gen r v (by omega)).symm]; exact h
def tR1 (E C A0 A1 A2 A3 : Int32) : Nat → Int32 := upd (upd (upd (upd (upd (upd (upd (upd (upd (upd (upd p0 3 E) 7 C) (27 + 3 * 0) A0) (28 + 3 * 0) 0) (27 + 3 * 1) A1) (28 + 3 * 1) 0) (27 + 3 * 2) A2) (28 + 3 * 2) 0) (27 + 3 * 3) A3) (28 + 3 * 3) 0) (24 + 2) 1
def tR (E C A0 A1 A2 A3 : Int32) (k : Nat) : Nat → Int32 := upd (upd (tR1 E C A0 A1 A2 A3) (16 + k) 255) (24 + 0) 1
theorem tR_ne {E C A0 A1 A2 A3 : Int32} {k j : Nat} (hk : k < 8) (h : (j < 16 ∨ 25 ≤ j)) : tR E C A0 A1 A2 A3 k j = tR1 E C A0 A1 A2 A3 j := by
  unfold tR
  rw [← upd_gen _ _ (by omega), ← upd_gen _ _ (by omega)]
theorem tR_reg {E C A0 A1 A2 A3 : Int32} {k : Nat} (hk : k < 8) : tR E C A0 A1 A2 A3 k (16 + k) = 255 := by
  unfold tR
  rw [← upd_gen _ _ (by omega)]
  exact if_pos rfl
theorem tR1_lo {E C A0 A1 A2 A3 : Int32} {j : Nat} (h1 : 8 ≤ j) (h2 : j < 26) : tR1 E C A0 A1 A2 A3 j = 0 := by
  unfold tR1
  rw [← upd_gen _ _ (by omega), ← upd_gen _ _ (by omega), ← upd_gen _ _ (by omega), ← upd_gen _ _ (by omega), ← upd_gen _ _ (by omega), ← upd_gen _ _ (by omega), ← upd_gen _ _ (by omega), ← upd_gen _ _ (by omega), ← upd_gen _ _ (by omega), ← upd_gen _ _ (by omega), ← upd_gen _ _ (by omega)]
  unfold p0
  rw [if_neg (by omega), if_neg (by omega), if_neg (by omega), if_neg (by omega)]
theorem tR_regs {E C A0 A1 A2 A3 : Int32} {k j : Nat} (hk : k < 8) (h1 : 16 ≤ j) (h2 : j < 24) : tR E C A0 A1 A2 A3 k j = 255 ∨ tR E C A0 A1 A2 A3 k j = 0 := by
  by_cases e : j = 16 + k
  · rw [e]; exact Or.inl (tR_reg hk)
  · refine Or.inr ?_
    unfold tR
    rw [← upd_gen _ _ (by omega), ← upd_gen _ _ e]
    exact tR1_lo (by omega) (by omega)
theorem tR_dom {E C A0 A1 A2 A3 : Int32} {k : Nat} (hk : k < 8) : pdom (tR E C A0 A1 A2 A3 k) = 0 := dom0 (by rw [tR_ne hk (by omega)]; show ¬ (9 : Int32) < 6; decide)
theorem tR_set {E C : Int32} {a0 a1 a2 a3 k : Nat} (hk : k < 8) (h : a0 < 2000 ∧ a1 < 2000 ∧ a2 < 2000 ∧ a3 < 2000) : setN (tR E C (nI a0) (nI a1) (nI a2) (nI a3) k) 4 = 4 := by
  show 0 + (if tR E C (nI a0) (nI a1) (nI a2) (nI a3) k 27 = -99999999 then 0 else 1) + (if tR E C (nI a0) (nI a1) (nI a2) (nI a3) k 30 = -99999999 then 0 else 1) + (if tR E C (nI a0) (nI a1) (nI a2) (nI a3) k 33 = -99999999 then 0 else 1) + (if tR E C (nI a0) (nI a1) (nI a2) (nI a3) k 36 = -99999999 then 0 else 1) = (4 : Int32)
  rw [tR_ne hk (by omega), tR_ne hk (by omega), tR_ne hk (by omega), tR_ne hk (by omega)]
  rw [if_neg (show ¬ tR1 E C (nI a0) (nI a1) (nI a2) (nI a3) 27 = -99999999 from nI_nn (n := a0) (by omega)), if_neg (show ¬ tR1 E C (nI a0) (nI a1) (nI a2) (nI a3) 30 = -99999999 from nI_nn (n := a1) (by omega)), if_neg (show ¬ tR1 E C (nI a0) (nI a1) (nI a2) (nI a3) 33 = -99999999 from nI_nn (n := a2) (by omega)), if_neg (show ¬ tR1 E C (nI a0) (nI a1) (nI a2) (nI a3) 36 = -99999999 from nI_nn (n := a3) (by omega))]
  decide
theorem tR_SG {E A0 A1 A2 A3 : Int32} {k c : Nat} (hk : k < 8) (hc : c ≤ 9999) (hR : Rd (tR E (nI c) A0 A1 A2 A3 k)) (g : Nat → Nat → Int32) (x y : Int64) : SG 0 0 (tR E (nI c) A0 A1 A2 A3 k, x, y, g) := by
  have z : ∀ j, j = 0 ∨ j = 8 ∨ (10 ≤ j ∧ j < 16) → tR E (nI c) A0 A1 A2 A3 k j = 0 := fun j hj => by
    rw [tR_ne hk (by omega)]
    rcases (show j = 0 ∨ 8 ≤ j by omega) with q | q
    · rw [q]; rfl
    · exact tR1_lo q (by omega)
  refine ⟨Good_Rd hR (Int.le_refl 0), ⟨?_, ?_, ?_, ?_, fun j h1 h2 => ?_, fun j hj h2 => ?_⟩, fun q => ?_⟩
  · show ((0 ≤ (tR E (nI c) A0 A1 A2 A3 k 12).toInt ∧ 0 ≤ (tR E (nI c) A0 A1 A2 A3 k 13).toInt ∧ 0 ≤ (tR E (nI c) A0 A1 A2 A3 k 14).toInt ∧ 0 ≤ (tR E (nI c) A0 A1 A2 A3 k 15).toInt) ∧ (tR E (nI c) A0 A1 A2 A3 k 12).toInt + (tR E (nI c) A0 A1 A2 A3 k 13).toInt + (tR E (nI c) A0 A1 A2 A3 k 14).toInt + (tR E (nI c) A0 A1 A2 A3 k 15).toInt = (tR E (nI c) A0 A1 A2 A3 k 0).toInt ∧ (tR E (nI c) A0 A1 A2 A3 k 0).toInt ≤ 0)
    rw [z 12 (by omega), z 13 (by omega), z 14 (by omega), z 15 (by omega), z 0 (by omega), t_0]
    omega
  · show (tR E (nI c) A0 A1 A2 A3 k 11).toInt ≤ (tR E (nI c) A0 A1 A2 A3 k 8).toInt ∧ (tR E (nI c) A0 A1 A2 A3 k 8).toInt ≤ 0
    rw [z 11 (by omega), z 8 (by omega), t_0]; omega
  · show 0 ≤ (tR E (nI c) A0 A1 A2 A3 k 10).toInt ∧ (tR E (nI c) A0 A1 A2 A3 k 10).toInt ≤ 0
    rw [z 10 (by omega), t_0]; omega
  · show (tR E (nI c) A0 A1 A2 A3 k 7).toInt ≤ 9999
    rw [tR_ne hk (by omega), show tR1 E (nI c) A0 A1 A2 A3 7 = nI c from rfl, nI_toInt (by omega)]; omega
  · show 0 ≤ (tR E (nI c) A0 A1 A2 A3 k j).toInt ∧ (tR E (nI c) A0 A1 A2 A3 k j).toInt ≤ 255
    rcases tR_regs (E := E) (C := nI c) (A0 := A0) (A1 := A1) (A2 := A2) (A3 := A3) hk h1 h2 with q | q
    · rw [q, show (255 : Int32).toInt = 255 by decide +kernel]; omega
    · rw [q, t_0]; omega
  · have h3 : nI j < tR E (nI c) A0 A1 A2 A3 k 11 := h2
    rw [z 11 (by omega)] at h3
    exact absurd h3 (nI_pos (by omega))
  · have q' : pdom (tR E (nI c) A0 A1 A2 A3 k) = 3 := q
    rw [tR_dom hk] at q'
    exact absurd q' (by decide)
theorem rd_9 {cd : Nat → Int32} {ln na np nr : Nat} {r t : Nat → Int32} (h : RdP cd ln na np nr r t) (hl : ln ≤ 60) : (rdAll cd ln).1 = true ∧ (rdAll cd ln).2.2.2.2.2.1 = r := by
  rw [RdP_end h hl]
  exact ⟨rfl, rfl⟩
