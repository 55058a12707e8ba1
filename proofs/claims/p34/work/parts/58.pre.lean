/-! bools stay bools; no alarm waits while the domain is main -/
abbrev bk8 (k : Nat) : Prop := k = 5 ∨ k = 24 ∨ k = 25 ∨ k = 26 ∨ k = 28 ∨ k = 31 ∨ k = 34 ∨ k = 37
def Bw (r : Nat → Int32) : Prop := ∀ k, bk8 k → r k = 0 ∨ r k = 1
theorem Bw_upd {r : Nat → Int32} {i : Nat} {v : Int32} (h : Bw r) (hv : ¬ bk8 i ∨ v = 0 ∨ v = 1) : Bw (upd r i v) := by
  intro k hk
  by_cases e : k = i
  · subst e
    have e2 : upd r k v k = v := by unfold upd; exact if_pos rfl
    rw [e2]
    exact hv.resolve_left (fun q => q hk)
  · rw [← upd_gen r v e]; exact h k hk
theorem Bw_erase {r : Nat → Int32} (h : Bw r) : Bw (perase r) := by
  intro k hk
  unfold perase
  split
  · exact Or.inl rfl
  · exact h k hk
theorem Bw_lose {r : Nat → Int32} (h : Bw r) : Bw (plose r) :=
  Bw_upd (Bw_upd (Bw_upd (Bw_upd (Bw_upd (Bw_upd (Bw_upd (Bw_upd (Bw_upd (Bw_erase h) (Or.inr (Or.inl rfl))) (Or.inr (Or.inl rfl))) (Or.inr (Or.inl rfl))) (Or.inl (by omega))) (Or.inr (Or.inl rfl))) (Or.inr (Or.inl rfl))) (Or.inr (Or.inl rfl))) (Or.inr (Or.inl rfl))) (Or.inr (Or.inl rfl))
theorem Bw_ring {i : Nat} {r : Nat → Int32} (h : Bw r) : Bw (pring i r) := Bw_upd (Bw_upd (Bw_upd h (Or.inr (Or.inl rfl))) (Or.inl (by omega))) (Or.inl (by omega))
theorem Bw_ringIf {i : Nat} {r : Nat → Int32} (h : Bw r) : Bw (pringIf i r) := by
  unfold pringIf
  split
  · exact Bw_ring h
  · exact h
theorem Bw_ringFrom : ∀ (n i : Nat) {r : Nat → Int32}, Bw r → Bw (pringFrom n i r) := by
  intro n
  induction n with
  | zero => intro i r h; exact h
  | succ n ih => intro i r h; exact ih (i + 1) (Bw_ringIf h)
theorem Bw_settle {b : Int32} {r : Nat → Int32} (h : Bw r) : Bw (psettle b r) := by
  unfold psettle
  split
  · exact h
  · split
    · exact Bw_lose h
    · split
      · exact Bw_ringFrom 4 0 h
      · exact h
theorem Bw_level {v : Int32} {r : Nat → Int32} (h : Bw r) : Bw (plevel v r) := Bw_settle (Bw_upd h (Or.inl (by omega)))
theorem Bw_charge {v : Int32} {r : Nat → Int32} (h : Bw r) : Bw (pcharge v r) := Bw_settle (Bw_upd h (Or.inl (by omega)))
theorem pdom_nat (r : Nat → Int32) : (pdom r).toNatClampNeg < 4 := domv_lt _ _
theorem Bw_spend {r : Nat → Int32} (h : Bw r) : Bw (pspend r) := by
  have hd := pdom_nat r
  have h1 : Bw (pspent r) := Bw_upd (Bw_upd h (Or.inl (by omega))) (Or.inl (by omega))
  unfold pspend
  split
  · exact Bw_upd h1 (Or.inl (by omega))
  · exact h1
theorem Bw_dueStep {u v : Int32} {i : Nat} {r : Nat → Int32} (h : Bw r) : Bw (pdueStep u v i r) := by
  unfold pdueStep
  split
  · split
    · exact Bw_ring h
    · exact Bw_upd h (Or.inr (Or.inr rfl))
  · exact h
theorem Bw_dueFrom {u v : Int32} : ∀ (n i : Nat) {r : Nat → Int32}, Bw r → Bw (pdueFrom u v n i r) := by
  intro n
  induction n with
  | zero => intro i r h; exact h
  | succ n ih => intro i r h; exact ih (i + 1) (Bw_dueStep h)
theorem Bw_minute {r : Nat → Int32} (h : Bw r) : Bw (pminute r) := by
  have h2 : Bw (pm2 r) := Bw_settle (Bw_spend h)
  unfold pminute
  split
  · exact h2
  · exact Bw_dueFrom 4 0 (Bw_upd (Bw_upd h2 (Or.inl (by omega))) (Or.inl (by omega)))
theorem Bw_mins {n : Nat} {r : Nat → Int32} (h : Bw r) : Bw (minsR n r) := by
  induction n generalizing r with
  | zero => exact h
  | succ n ih => exact ih (Bw_minute h)
theorem Bw_tamR {p : Int32} {r : Nat → Int32} (h : Bw r) : Bw (ptamR p r) := by
  have h8 := Bw_upd (v := r 8 + 1) (i := 8) (Bw_erase h) (Or.inl (by omega))
  unfold ptamR
  split
  · exact Bw_upd (Bw_upd (Bw_upd (Bw_upd h8 (Or.inl (by omega))) (Or.inl (by omega))) (Or.inl (by omega))) (Or.inl (by omega))
  · exact h8
theorem Bw_tamper {p : Int32} {r : Nat → Int32} (h : Bw r) : Bw (ptamper p r) := by
  unfold ptamper
  split
  · split
    · exact h
    · exact Bw_tamR h
  · exact h
theorem Bw_setAl {i : Nat} {v : Int32} {r : Nat → Int32} (h : Bw r) : Bw (psetAl i v r) := Bw_upd (Bw_upd h (Or.inl (by omega))) (Or.inr (Or.inl rfl))
theorem Zw_ring {r : Nat → Int32} (h : Bw r) : pringFrom 4 0 r 28 = 0 ∧ pringFrom 4 0 r 31 = 0 ∧ pringFrom 4 0 r 34 = 0 ∧ pringFrom 4 0 r 37 = 0 := by
  have hb := Bw_ringFrom 4 0 h
  have f : ∀ i, i < 4 → bk8 (28 + 3 * i) → pringFrom 4 0 r (28 + 3 * i) = 0 := fun i hi hk => (bz_of (hb _ hk)).symm.trans ((pring4_28 r i hi).trans rfl)
  exact ⟨f 0 (by omega) (by omega), f 1 (by omega) (by omega), f 2 (by omega) (by omega), f 3 (by omega) (by omega)⟩
theorem Iw_level {v : Int32} {r : Nat → Int32} (h : Iw r) (hb : Bw r) : Iw (plevel v r) := by
  have hb2 : Bw (upd r 6 v) := Bw_upd hb (Or.inl (by omega))
  unfold plevel psettle
  by_cases h1 : pdom (upd r 6 v) = pdom r
  · rw [if_pos h1]
    intro q
    have q2 : ¬ v < 6 := q
    have hd : pdom (upd r 6 v) = 0 := dom0 q2
    exact h (dom0' (h1.symm.trans hd))
  · rw [if_neg h1]
    by_cases h2 : pdom (upd r 6 v) = 3
    · rw [if_pos h2]; exact fun _ => ⟨rfl, rfl, rfl, rfl⟩
    · rw [if_neg h2]
      by_cases h3 : pdom (upd r 6 v) = 0
      · rw [if_pos h3]; exact fun _ => Zw_ring hb2
      · rw [if_neg h3]
        intro q
        have q2 : ¬ v < 6 := q
        exact absurd (dom0 q2) h3
theorem Iw_charge {v : Int32} {r : Nat → Int32} (h : Iw r) : Iw (pcharge v r) := Iw_psettle (Iw_upd h (by omega) (by omega) (by omega) (by omega) (by omega))
theorem Iw_tamper {p : Int32} {r : Nat → Int32} (h : Iw r) (h0 : ¬ r 11 < 0) : Iw (ptamper p r) := by
  unfold ptamper
  split
  · split
    · exact h
    · intro q
      have f : ∀ k, k = 6 ∨ k = 28 ∨ k = 31 ∨ k = 34 ∨ k = 37 → ptamR p r k = r k := fun k hk => (ptamR_ne p h0 (by omega) (by omega) (by omega)).trans (perase_ne r (by omega))
      rw [f 6 (by omega)] at q
      rw [f 28 (by omega), f 31 (by omega), f 34 (by omega), f 37 (by omega)]
      exact h q
  · exact h
theorem Iw_upd0 {r : Nat → Int32} {i : Nat} (h : Iw r) (h6 : i ≠ 6) : Iw (upd r i 0) := by
  intro q
  rw [← upd_gen r 0 (Ne.symm h6)] at q
  have hz := h q
  have f : ∀ k, r k = 0 → upd r i 0 k = 0 := fun k hk => by
    unfold upd
    split
    · rfl
    · exact hk
  exact ⟨f _ hz.1, f _ hz.2.1, f _ hz.2.2.1, f _ hz.2.2.2⟩
theorem Iw_setAl {i : Nat} {v : Int32} {r : Nat → Int32} (h : Iw r) : Iw (psetAl i v r) := Iw_upd0 (Iw_upd h (by omega) (by omega) (by omega) (by omega) (by omega)) (by omega)
def Pw (r : Nat → Int32) : Prop := Rw r ∧ Bw r ∧ Iw r
theorem Pw_mins {n : Nat} {r : Nat → Int32} (h : Pw r) : Pw (minsR n r) := ⟨Rw_mins h.1, Bw_mins h.2.1, Iw_mins h.2.2⟩
theorem Pw_minute {r : Nat → Int32} (h : Pw r) : Pw (pminute r) := ⟨Rw_minute h.1, Bw_minute h.2.1, Iw_pminute h.2.2⟩
theorem Pw_level {v : Int32} {r : Nat → Int32} (h : Pw r) : Pw (plevel v r) := ⟨Rw_level h.1, Bw_level h.2.1, Iw_level h.2.2 h.2.1⟩
theorem Pw_charge {v : Int32} {r : Nat → Int32} (h : Pw r) : Pw (pcharge v r) := ⟨Rw_charge h.1, Bw_charge h.2.1, Iw_charge h.2.2⟩
theorem Pw_tamper {p : Int32} {r : Nat → Int32} (h : Pw r) : Pw (ptamper p r) := ⟨Rw_tamper h.1, Bw_tamper h.2.1, Iw_tamper h.2.2 h.1.1⟩
theorem Pw_setAl {i : Nat} {v : Int32} {r : Nat → Int32} (h : Pw r) : Pw (psetAl i v r) := ⟨Rw_eq h.1 (by unfold psetAl; rw [← upd_gen _ _ (by omega), ← upd_gen _ _ (by omega)]), Bw_setAl h.2.1, Iw_setAl h.2.2⟩
theorem Pw_upd {r : Nat → Int32} {i : Nat} {v : Int32} (h : Pw r) (h1 : i ≠ 11) (h2 : ¬ bk8 i) (h3 : i ≠ 6) : Pw (upd r i v) := ⟨Rw_eq h.1 (upd_gen r v (Ne.symm h1)).symm, Bw_upd h.2.1 (Or.inl h2), Iw_upd h.2.2 h3 (by omega) (by omega) (by omega) (by omega)⟩
theorem Pw_cmd {gg : Nat} {r : Nat → Int32} (h : Pw r) : Pw (cmdR gg r) := by
  unfold cmdR
  split
  · exact Pw_mins h
  · split
    · split
      · exact Pw_level h
      · exact h
    · split
      · split
        · split
          · exact Pw_upd h (by omega) (by omega) (by omega)
          · exact h
        · exact h
      · split
        · split
          · rename_i hw
            have h8 := hw.1
            exact Pw_upd h (by omega) (by omega) (by omega)
          · exact h
        · split
          · split
            · split
              · exact Pw_tamper h
              · exact h
            · exact h
          · split
            · split
              · split
                · exact Pw_setAl h
                · exact h
              · exact h
            · exact h
