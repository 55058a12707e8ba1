/-! more of the hands' small words -/
theorem loss_a {t d : Int32} (h : ¬ t = 3) : lossv t d = 0 := if_neg h
theorem loss_b {t d : Int32} (h : t = 3) (h2 : d = 3) : lossv t d = 0 := (if_pos h).trans (if_pos h2)
theorem loss_c {t d : Int32} (h : t = 3) (h2 : ¬ d = 3) : lossv t d = 1 := (if_pos h).trans (if_neg h2)
theorem told_a {r : Nat → Int32} {k : Nat} (h : ¬ bz (r (24 + k)) = 1) : toldv r k = 0 := if_neg (bz_n h)
theorem told_b {r : Nat → Int32} {k : Nat} (h : bz (r (24 + k)) = 1) (h2 : pdom r = 3) : toldv r k = 0 := (if_pos (bz_y h)).trans (if_pos h2)
theorem told_c {r : Nat → Int32} {k : Nat} (h : bz (r (24 + k)) = 1) (h2 : ¬ pdom r = 3) : toldv r k = 1 := (if_pos (bz_y h)).trans (if_neg h2)
theorem told_or (r : Nat → Int32) (k : Nat) : toldv r k = 0 ∨ toldv r k = 1 := by
  unfold toldv
  split
  · split
    · exact Or.inl rfl
    · exact Or.inr rfl
  · exact Or.inl rfl
theorem rows_b {t x : Int32} (h : ¬ t = 0) (h2 : 6 ≤ x) : (if t = 0 then x else if x < 6 then x + 1 else x) = x := (if_neg h).trans (if_neg (fun q => by
  rw [fa_lt] at q
  rw [fa_le] at h2
  omega))
theorem rows_c {t x : Int32} (h : ¬ t = 0) (h2 : ¬ (6 : Int32) ≤ x) : (if t = 0 then x else if x < 6 then x + 1 else x) = x + 1 := (if_neg h).trans (if_pos (fa_of_nle h2))
theorem up4_k (r : Nat → Int32) (T v : Int32) {k : Nat} (hk : 6 ≤ k) : upd (upd (upd (upd r 1 T) 2 0) 5 1) 4 v k = r k := by
  rw [← upd_gen _ _ (by omega), ← upd_gen _ _ (by omega), ← upd_gen _ _ (by omega), ← upd_gen _ _ (by omega)]
theorem up5_k (r : Nat → Int32) (T v w : Int32) {j k : Nat} (hk : 6 ≤ k) (h2 : k < 16) : upd (upd (upd (upd (upd r 1 T) 2 0) 5 1) 4 v) (16 + j) w k = r k := by
  rw [← upd_gen _ _ (by omega)]
  exact up4_k r T v hk
theorem up6_k (r : Nat → Int32) (T v w : Int32) {j : Nat} : upd (upd (upd (upd (upd (upd r 1 T) 2 0) 5 1) 4 v) (16 + j) w) 11 0 8 = r 8 := (upd_gen _ _ (by omega)).symm.trans (up5_k r T v w (by omega) (by omega))
theorem up_at' (r : Nat → Int32) (i : Nat) (v : Int32) : upd r i v i = v := if_pos rfl
theorem dom_up5 {r : Nat → Int32} {T v : Int32} (h : pdom r = 0) : pdom (upd (upd (upd (upd r 1 T) 2 0) 5 1) 4 v) = 0 := h
theorem dom_up6 {r : Nat → Int32} {T v w : Int32} {j : Nat} (h : pdom r = 0) : pdom (upd (upd (upd (upd (upd r 1 T) 2 0) 5 1) 4 v) (16 + j) w) = 0 := (dom_of (upd_gen _ _ (by omega)).symm (upd_gen _ _ (by omega)).symm).trans h
/-! a page that has a name -/
theorem pg_1 {P : CPg} {f : Nat → Int32} {R : Int64 × Int64 × (Nat → Nat → Int32)} (h : P = (f, R)) : P.1 = f := by rw [h]
theorem pg_tam {P Q : CPg} {i : Int32} (h : P = tamP i Q) : P.1 = ptamper i Q.1 := by rw [h]; rfl
theorem pg_tamG {P Q : CPg} {i : Int32} (h : P = tamP i Q) : P.2.2.2 = ptamG i Q.1 Q.2.2.2 := by rw [h]; rfl
