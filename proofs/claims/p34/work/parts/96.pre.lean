/-! what holds between the calls -/
def R9 (r : Nat → Int32) : Prop := r 9 = ringN r
theorem R9_of {r q : Nat → Int32} (h : R9 r) (h9 : q 9 = r 9) (h0 : q 29 = r 29) (h1 : q 32 = r 32) (h2 : q 35 = r 35) (h3 : q 38 = r 38) : R9 q := by
  unfold R9 ringN
  rw [h9, h0, h1, h2, h3]
  exact h
theorem R9_upd {r : Nat → Int32} {i : Nat} {v : Int32} (h : R9 r) (hi : i ≠ 9 ∧ i ≠ 29 ∧ i ≠ 32 ∧ i ≠ 35 ∧ i ≠ 38) : R9 (upd r i v) :=
  R9_of h (upd_gen r v (Ne.symm hi.1)).symm (upd_gen r v (Ne.symm hi.2.1)).symm (upd_gen r v (Ne.symm hi.2.2.1)).symm (upd_gen r v (Ne.symm hi.2.2.2.1)).symm (upd_gen r v (Ne.symm hi.2.2.2.2)).symm
theorem R9_ring {r : Nat → Int32} {i : Nat} (h : R9 r) (hi : i < 4) : R9 (pring i r) := by
  have h2 : r 9 = 0 + r 29 + r 32 + r 35 + r 38 := h
  match i, hi with
  | 0, _ => show r 9 + 1 = 0 + (r 29 + 1) + r 32 + r 35 + r 38; rw [h2]; grind
  | 1, _ => show r 9 + 1 = 0 + r 29 + (r 32 + 1) + r 35 + r 38; rw [h2]; grind
  | 2, _ => show r 9 + 1 = 0 + r 29 + r 32 + (r 35 + 1) + r 38; rw [h2]; grind
  | 3, _ => show r 9 + 1 = 0 + r 29 + r 32 + r 35 + (r 38 + 1); rw [h2]; grind
theorem R9_ringIf {r : Nat → Int32} {i : Nat} (h : R9 r) (hi : i < 4) : R9 (pringIf i r) := by
  unfold pringIf
  split
  · exact R9_ring h hi
  · exact h
theorem R9_ring4 {r : Nat → Int32} (h : R9 r) : R9 (pringFrom 4 0 r) := R9_ringIf (R9_ringIf (R9_ringIf (R9_ringIf h (by decide)) (by decide)) (by decide)) (by decide)
theorem R9_lose {r : Nat → Int32} (h : R9 r) : R9 (plose r) := R9_of h rfl rfl rfl rfl rfl
theorem R9_settle {b : Int32} {r : Nat → Int32} (h : R9 r) : R9 (psettle b r) := by
  unfold psettle
  split
  · exact h
  · split
    · exact R9_lose h
    · split
      · exact R9_ring4 h
      · exact h
theorem R9_spend {r : Nat → Int32} (h : R9 r) : R9 (pspend r) := R9_of h (pspend_ne r (by decide) (by decide) (by decide)) (pspend_ne r (by decide) (by decide) (by decide)) (pspend_ne r (by decide) (by decide) (by decide)) (pspend_ne r (by decide) (by decide) (by decide)) (pspend_ne r (by decide) (by decide) (by decide))
theorem R9_dueStep {u v : Int32} {i : Nat} {r : Nat → Int32} (h : R9 r) (hi : i < 4) : R9 (pdueStep u v i r) := by
  unfold pdueStep
  split
  · split
    · exact R9_ring h hi
    · exact R9_upd h (by omega)
  · exact h
theorem R9_minute {r : Nat → Int32} (h : R9 r) : R9 (pminute r) := by
  have h2 : R9 (pm2 r) := R9_settle (R9_spend h)
  unfold pminute
  split
  · exact h2
  · have h3 : R9 (pclock (pm2 r)) := R9_of h2 rfl rfl rfl rfl rfl
    exact R9_dueStep (R9_dueStep (R9_dueStep (R9_dueStep h3 (by decide)) (by decide)) (by decide)) (by decide)
theorem R9_mins {n : Nat} {r : Nat → Int32} (h : R9 r) : R9 (minsR n r) := by
  induction n generalizing r with
  | zero => exact h
  | succ n ih => exact ih (R9_minute h)
theorem R9_tamper {p : Int32} {r : Nat → Int32} (h : R9 r) (h0 : ¬ r 11 < 0) : R9 (ptamper p r) := by
  unfold ptamper
  split
  · split
    · exact h
    · have f : ∀ k, k = 9 ∨ k = 29 ∨ k = 32 ∨ k = 35 ∨ k = 38 → ptamR p r k = r k := fun k hk => (ptamR_ne p h0 (by omega) (by omega) (by omega)).trans (perase_ne r (by omega))
      exact R9_of h (f 9 (by omega)) (f 29 (by omega)) (f 32 (by omega)) (f 35 (by omega)) (f 38 (by omega))
  · exact h
/-- the rows of tampers, as both sides keep them -/
def Gw (r : Nat → Int32) (g : Nat → Nat → Int32) : Prop := ∀ j, j < 6 → nI j < r 11 → g 0 j = r (39 + 3 * j) ∧ g 1 j = r (40 + 3 * j) ∧ g 2 j = r (41 + 3 * j)
theorem Gw_z {r : Nat → Int32} {g : Nat → Nat → Int32} (h : r 11 = 0) : Gw r g := fun j hj h2 => by
  rw [h] at h2
  exact absurd h2 (nI_pos (by omega))
theorem Gw_of {r q : Nat → Int32} {g : Nat → Nat → Int32} (h : Gw r g) (h11 : q 11 = r 11) (hk : ∀ k, 39 ≤ k → q k = r k) : Gw q g := fun j hj h2 => by
  rw [h11] at h2
  have := h j hj h2
  rw [hk _ (by omega), hk _ (by omega), hk _ (by omega)]
  exact this
theorem Gw_upd {r : Nat → Int32} {i : Nat} {v : Int32} {g : Nat → Nat → Int32} (h : Gw r g) (hi : i ≠ 11 ∧ i < 39) : Gw (upd r i v) g := Gw_of h (upd_gen r v (Ne.symm hi.1)).symm (fun k hk => (upd_gen r v (by omega)).symm)
theorem Gw_settle {b : Int32} {r : Nat → Int32} {g : Nat → Nat → Int32} (h : Gw r g) : Gw (psettle b r) g := by
  unfold psettle
  split
  · exact h
  · split
    · exact Gw_z rfl
    · split
      · exact Gw_of h (pring4_out r (by decide) (by decide)) (fun k hk => pring4_out r (by omega) (by omega))
      · exact h
theorem pring_39 (i : Nat) (r : Nat → Int32) {k : Nat} (hi : i < 4) (hk : 39 ≤ k) : pring i r k = r k := by
  unfold pring
  rw [← upd_gen _ _ (by omega), ← upd_gen _ _ (by omega), ← upd_gen _ _ (by omega)]
theorem Gw_dueStep {u v : Int32} {i : Nat} {r : Nat → Int32} {g : Nat → Nat → Int32} (h : Gw r g) (hi : i < 4) : Gw (pdueStep u v i r) g := by
  unfold pdueStep
  split
  · split
    · exact Gw_of h (pring_11 i r) (fun k hk => pring_39 i r hi hk)
    · exact Gw_upd h (by omega)
  · exact h
theorem Gw_minute {r : Nat → Int32} {g : Nat → Nat → Int32} (h : Gw r g) : Gw (pminute r) g := by
  have h1 : Gw (pspend r) g := Gw_of h (pspend_ne r (by decide) (by decide) (by decide)) (fun k hk => pspend_ne r (by omega) (by omega) (by omega))
  have h2 : Gw (pm2 r) g := Gw_settle h1
  unfold pminute
  split
  · exact h2
  · have h3 : Gw (pclock (pm2 r)) g := Gw_of h2 rfl (fun k hk => by
      show upd (upd (pm2 r) 1 _) 2 _ k = _
      rw [← upd_gen _ _ (by omega), ← upd_gen _ _ (by omega)])
    exact Gw_dueStep (Gw_dueStep (Gw_dueStep (Gw_dueStep h3 (by decide)) (by decide)) (by decide)) (by decide)
theorem Gw_mins {n : Nat} {r : Nat → Int32} {g : Nat → Nat → Int32} (h : Gw r g) : Gw (minsR n r) g := by
  induction n generalizing r with
  | zero => exact h
  | succ n ih => exact ih (Gw_minute h)
theorem rowUp_at {w : Int32} {f : Nat → Int32} {v : Int32} (h : w < 6) : rowUp w f v = upd f w.toNatClampNeg v := if_pos h
theorem Gw_tamper {p : Int32} {r : Nat → Int32} {g : Nat → Nat → Int32} (h : Gw r g) (hR : Rw r) : Gw (ptamper p r) (ptamG p r g) := by
  unfold ptamper ptamG
  by_cases c1 : r (24 + p.toNatClampNeg) = 1
  · rw [if_pos c1, if_pos c1]
    by_cases c2 : pdom r = 3
    · rw [if_pos c2, if_pos c2]; exact h
    · rw [if_neg c2, if_neg c2]
      have hself := nI_self hR.1
      have hn : (r 11).toNatClampNeg ≤ 6 := by
        have h6 := hR.2
        obtain ⟨n, hn2, hn3⟩ := nI_of hR.1
        rw [hn3] at h6 ⊢
        rw [nI_clamp hn2]
        exact (nI_leI hn2 (by decide)).mp (show nI n ≤ nI 6 from h6)
      generalize hw : (r 11).toNatClampNeg = w at hself hn
      by_cases c3 : r 11 < 6
      · have c4 : w < 6 := by
          rw [hself] at c3
          exact (nI_ltI (by omega) (by decide)).mp (show nI w < nI 6 from c3)
        have e11 : ptamR p r 11 = nI (w + 1) := by
          rw [ptamR_11, if_pos c3, hself]
          exact nI_add w 1
        have eR : ptamR p r = upd (upd (upd (upd (upd (perase r) 8 (r 8 + 1)) (39 + 3 * w) p) (40 + 3 * w) (r 1)) (41 + 3 * w) (pdom r)) 11 (r 11 + 1) := by
          unfold ptamR
          rw [if_pos c3, hw]
        intro j hj hj2
        rw [e11] at hj2
        have hj3 : j < w + 1 := (nI_ltI (by omega) (by omega)).mp hj2
        show rowUp (r 11) (g 0) p j = _ ∧ rowUp (r 11) (g 1) (r 1) j = _ ∧ rowUp (r 11) (g 2) (pdom r) j = _
        rw [rowUp_at c3, rowUp_at c3, rowUp_at c3, hw, eR]
        by_cases hjw : j = w
        · subst hjw
          refine ⟨?_, ?_, ?_⟩
          · refine Eq.trans (if_pos rfl) ?_
            rw [← upd_gen _ _ (by omega), ← upd_gen _ _ (by omega), ← upd_gen _ _ (by omega)]
            exact (if_pos rfl).symm
          · refine Eq.trans (if_pos rfl) ?_
            rw [← upd_gen _ _ (by omega), ← upd_gen _ _ (by omega)]
            exact (if_pos rfl).symm
          · refine Eq.trans (if_pos rfl) ?_
            rw [← upd_gen _ _ (by omega)]
            exact (if_pos rfl).symm
        · have ho := h j hj (by rw [hself]; exact (nI_ltI (by omega) (by omega)).mpr (by omega))
          have fe : ∀ k, 39 ≤ k → k ≠ 39 + 3 * w → k ≠ 40 + 3 * w → k ≠ 41 + 3 * w → upd (upd (upd (upd (upd (perase r) 8 (r 8 + 1)) (39 + 3 * w) p) (40 + 3 * w) (r 1)) (41 + 3 * w) (pdom r)) 11 (r 11 + 1) k = r k := by
            intro k k1 k2 k3 k4
            rw [← upd_gen _ _ (by omega), ← upd_gen _ _ (by omega), ← upd_gen _ _ (by omega), ← upd_gen _ _ (by omega), ← upd_gen _ _ (by omega), perase_ne r (by omega)]
          rw [fe _ (by omega) (by omega) (by omega) (by omega), fe _ (by omega) (by omega) (by omega) (by omega), fe _ (by omega) (by omega) (by omega) (by omega), ← upd_gen _ _ hjw, ← upd_gen _ _ hjw, ← upd_gen _ _ hjw]
          exact ho
      · have eR : ptamR p r = upd (perase r) 8 (r 8 + 1) := by
          unfold ptamR
          rw [if_neg c3]
        rw [eR]
        intro j hj hj2
        have e11 : upd (perase r) 8 (r 8 + 1) 11 = r 11 := rfl
        rw [e11] at hj2
        have ho := h j hj hj2
        show rowUp (r 11) (g 0) p j = _ ∧ rowUp (r 11) (g 1) (r 1) j = _ ∧ rowUp (r 11) (g 2) (pdom r) j = _
        unfold rowUp
        rw [if_neg c3, if_neg c3, if_neg c3, ← upd_gen _ _ (by omega), ← upd_gen _ _ (by omega), ← upd_gen _ _ (by omega), perase_ne r (by omega), perase_ne r (by omega), perase_ne r (by omega)]
        exact ho
  · rw [if_neg c1, if_neg c1]; exact h
/-- the clock's numbers -/
def Ck (B : Int) (r : Nat → Int32) : Prop := (0 ≤ (r 1).toInt ∧ (r 1).toInt ≤ B) ∧ (-1000000 < (r 2).toInt ∧ (r 2).toInt < 1000000) ∧ (-500 ≤ (r 3).toInt ∧ (r 3).toInt ≤ 500) ∧ (-500 ≤ (r 4).toInt ∧ (r 4).toInt ≤ 500)
theorem Ck_of {B : Int} {r q : Nat → Int32} (h : Ck B r) (h1 : q 1 = r 1) (h2 : q 2 = r 2) (h3 : q 3 = r 3) (h4 : q 4 = r 4) : Ck B q := by
  unfold Ck
  rw [h1, h2, h3, h4]
  exact h
theorem Cw_settle {B : Int} {b : Int32} {q : Nat → Int32} (h : Ck B q) (hb : b = 3 → q 1 = 0) : Cw B (psettle b q) := by
  have e0 : (0 : Int32).toInt = 0 := by decide +kernel
  unfold psettle
  by_cases h1 : pdom q = b
  · rw [if_pos h1]; exact ⟨fun z => hb (h1.symm.trans z), h⟩
  · rw [if_neg h1]
    by_cases h2 : pdom q = 3
    · rw [if_pos h2]
      refine ⟨fun _ => rfl, ?_, ?_, h.2.2⟩
      · show 0 ≤ (0 : Int32).toInt ∧ (0 : Int32).toInt ≤ B
        rw [e0]; exact ⟨Int.le_refl 0, Int.le_trans h.1.1 h.1.2⟩
      · show -1000000 < (0 : Int32).toInt ∧ (0 : Int32).toInt < 1000000
        rw [e0]; decide
    · rw [if_neg h2]
      by_cases h3 : pdom q = 0
      · rw [if_pos h3]
        have hq := pring_in q
        refine ⟨fun z => ?_, Ck_of h hq.1 hq.2.1 hq.2.2.1 hq.2.2.2.1⟩
        have hd : pdom (pringFrom 4 0 q) = pdom q := by
          show domv _ _ = domv _ _
          rw [hq.2.2.2.2.1, hq.2.2.2.2.2.1]
        rw [hd, h3] at z
        exact absurd z (by decide)
      · rw [if_neg h3]; exact ⟨fun z => absurd z h2, h⟩
theorem Cw_level {B : Int} {v : Int32} {r : Nat → Int32} (h : Cw B r) : Cw B (plevel v r) := Cw_settle (q := upd r 6 v) (Ck_of h.2 rfl rfl rfl rfl) h.1
theorem Cw_charge {B : Int} {v : Int32} {r : Nat → Int32} (h : Cw B r) : Cw B (pcharge v r) := Cw_settle (q := upd r 7 v) (Ck_of h.2 rfl rfl rfl rfl) h.1
theorem Cw_of {B : Int} {r q : Nat → Int32} (h : Cw B r) (h1 : q 1 = r 1) (h2 : q 2 = r 2) (h3 : q 3 = r 3) (h4 : q 4 = r 4) (h6 : q 6 = r 6) (h7 : q 7 = r 7) : Cw B q := by
  refine ⟨fun z => ?_, Ck_of h.2 h1 h2 h3 h4⟩
  have hd : pdom q = pdom r := by
    show domv _ _ = domv _ _
    rw [h6, h7]
  rw [h1]; exact h.1 (hd.symm.trans z)
theorem Cw_upd {B : Int} {r : Nat → Int32} {i : Nat} {v : Int32} (h : Cw B r) (hi : i ≠ 1 ∧ i ≠ 2 ∧ i ≠ 3 ∧ i ≠ 4 ∧ i ≠ 6 ∧ i ≠ 7) : Cw B (upd r i v) :=
  Cw_of h (upd_gen r v (by omega)).symm (upd_gen r v (by omega)).symm (upd_gen r v (by omega)).symm (upd_gen r v (by omega)).symm (upd_gen r v (by omega)).symm (upd_gen r v (by omega)).symm
theorem Cw_tamper {B : Int} {p : Int32} {r : Nat → Int32} (h : Cw B r) (h0 : ¬ r 11 < 0) : Cw B (ptamper p r) := by
  unfold ptamper
  split
  · split
    · exact h
    · have f : ∀ k, k < 8 → ptamR p r k = r k := fun k hk => (ptamR_ne p h0 (by omega) (by omega) (by omega)).trans (perase_ne r (by omega))
      exact Cw_of h (f 1 (by omega)) (f 2 (by omega)) (f 3 (by omega)) (f 4 (by omega)) (f 6 (by omega)) (f 7 (by omega))
  · exact h
/-- the charge is not negative -/
def C7 (r : Nat → Int32) : Prop := 0 ≤ (r 7).toInt
theorem settle_7 (b : Int32) (q : Nat → Int32) : psettle b q 7 = q 7 := by
  unfold psettle
  split
  · rfl
  · split
    · rfl
    · split
      · exact (pring_in q).2.2.2.2.2.1
      · rfl
theorem C7_minute {r : Nat → Int32} (h : C7 r) : C7 (pminute r) := by
  have e0 : (0 : Int32).toInt = 0 := by decide +kernel
  have e1 : (1 : Int32).toInt = 1 := by decide +kernel
  unfold C7 at h ⊢
  rw [pminute_7]
  split
  · rename_i hd
    have hz : ¬ r 7 = 0 := by
      intro q
      have h6 : r 6 < 6 := by
        refine Classical.byContradiction fun z => ?_
        have := dom0 (c := r 7) z
        rcases hd with k | k
        · exact absurd (this.symm.trans k) (by decide)
        · exact absurd (this.symm.trans k) (by decide)
      have h3 := (dom_3 h6).mpr q
      rcases hd with k | k
      · rw [h3] at k; exact absurd k (by decide)
      · rw [h3] at k; exact absurd k (by decide)
    have hne : (r 7).toInt ≠ 0 := fun q => hz (Int32.toInt_inj.mp (q.trans e0.symm))
    rw [fb_subI (by omega) (by have := fb_rng (r 7); omega), e1]
    omega
  · exact h
theorem C7_mins {n : Nat} {r : Nat → Int32} (h : C7 r) : C7 (minsR n r) := by
  induction n generalizing r with
  | zero => exact h
  | succ n ih => exact ih (C7_minute h)
/-- a page that both sides keep -/
def Good (B : Int) (r : Nat → Int32) (g : Nat → Nat → Int32) : Prop := Pw r ∧ R9 r ∧ Cw B r ∧ C7 r ∧ Gw r g
theorem Good_up {B B2 : Int} {r : Nat → Int32} {g : Nat → Nat → Int32} (h : Good B r g) (hB : B ≤ B2) : Good B2 r g := ⟨h.1, h.2.1, Cw_up h.2.2.1 hB, h.2.2.2⟩
theorem Good_mins {B : Int} {n : Nat} {r : Nat → Int32} {g : Nat → Nat → Int32} (h : Good B r g) (hB : B + 61 * n ≤ 2000000000) : Good (B + 61 * n) (minsR n r) g := ⟨Pw_mins h.1, R9_mins h.2.1, Cw_mins n h.2.2.1 hB, C7_mins h.2.2.2.1, Gw_mins h.2.2.2.2⟩
theorem Good_level {B : Int} {v : Int32} {r : Nat → Int32} {g : Nat → Nat → Int32} (h : Good B r g) : Good B (plevel v r) g := ⟨Pw_level h.1, R9_settle (R9_upd h.2.1 (by decide)), Cw_level h.2.2.1, by unfold C7 plevel; rw [settle_7]; exact h.2.2.2.1, Gw_settle (Gw_upd h.2.2.2.2 (by decide))⟩
theorem Good_charge {B : Int} {v : Int32} {r : Nat → Int32} {g : Nat → Nat → Int32} (h : Good B r g) (hv : 0 ≤ v.toInt) : Good B (pcharge v r) g := ⟨Pw_charge h.1, R9_settle (R9_upd h.2.1 (by decide)), Cw_charge h.2.2.1, by unfold C7 pcharge; rw [settle_7]; exact hv, Gw_settle (Gw_upd h.2.2.2.2 (by decide))⟩
theorem Good_tamper {B : Int} {p : Int32} {r : Nat → Int32} {g : Nat → Nat → Int32} (h : Good B r g) : Good B (ptamper p r) (ptamG p r g) := by
  refine ⟨Pw_tamper h.1, R9_tamper h.2.1 h.1.1.1, Cw_tamper h.2.2.1 h.1.1.1, ?_, Gw_tamper h.2.2.2.2 h.1.1⟩
  unfold C7 ptamper
  split
  · split
    · exact h.2.2.2.1
    · rw [ptamR_ne p h.1.1.1 (by omega) (by omega) (by omega), perase_ne r (by omega)]; exact h.2.2.2.1
  · exact h.2.2.2.1
theorem C7_upd {r : Nat → Int32} {i : Nat} {v : Int32} (h : C7 r) (hi : i ≠ 7) : C7 (upd r i v) := by unfold C7; rw [← upd_gen r v (Ne.symm hi)]; exact h
theorem Good_setAl {B : Int} {i : Nat} {v : Int32} {r : Nat → Int32} {g : Nat → Nat → Int32} (h : Good B r g) (hi : i < 4) : Good B (psetAl i v r) g :=
  ⟨Pw_setAl h.1, R9_upd (R9_upd h.2.1 (by omega)) (by omega), Cw_upd (Cw_upd h.2.2.1 (by omega)) (by omega), C7_upd (C7_upd h.2.2.2.1 (by omega)) (by omega), Gw_upd (Gw_upd h.2.2.2.2 (by omega)) (by omega)⟩
theorem Pw_updB {r : Nat → Int32} {i : Nat} {v : Int32} (h : Pw r) (hi : i ≠ 11 ∧ i ≠ 6 ∧ i ≠ 28 ∧ i ≠ 31 ∧ i ≠ 34 ∧ i ≠ 37) (hv : v = 0 ∨ v = 1) : Pw (upd r i v) := ⟨Rw_eq h.1 (upd_gen r v (by omega)).symm, Bw_upd h.2.1 (Or.inr hv), Iw_upd h.2.2 (by omega) (by omega) (by omega) (by omega) (by omega)⟩
theorem Good_write {B : Int} {J : Nat} {v : Int32} {r : Nat → Int32} {g : Nat → Nat → Int32} (h : Good B r g) (hJ : J < 8) : Good B (upd r (16 + J) v) g :=
  ⟨Pw_upd h.1 (by omega) (by omega) (by omega), R9_upd h.2.1 (by omega), Cw_upd h.2.2.1 (by omega), C7_upd h.2.2.2.1 (by omega), Gw_upd h.2.2.2.2 (by omega)⟩
theorem Good_guard {B : Int} {J : Nat} {v : Int32} {r : Nat → Int32} {g : Nat → Nat → Int32} (h : Good B r g) (hJ : J < 3) (hv : v = 0 ∨ v = 1) : Good B (upd r (24 + J) v) g :=
  ⟨Pw_updB h.1 (by omega) hv, R9_upd h.2.1 (by omega), Cw_upd h.2.2.1 (by omega), C7_upd h.2.2.2.1 (by omega), Gw_upd h.2.2.2.2 (by omega)⟩
theorem Good_clear {B : Int} {r : Nat → Int32} {g : Nat → Nat → Int32} (h : Good B r g) : Good B (upd r 11 0) g :=
  ⟨⟨Rw_z rfl, Bw_upd h.1.2.1 (Or.inl (by omega)), Iw_upd h.1.2.2 (by omega) (by omega) (by omega) (by omega) (by omega)⟩, R9_upd h.2.1 (by omega), Cw_upd h.2.2.1 (by omega), C7_upd h.2.2.2.1 (by omega), Gw_z rfl⟩
theorem Good_time {B : Int} {v : Int32} {r : Nat → Int32} {g : Nat → Nat → Int32} (h : Good B r g) (h0 : pdom r = 0) (hv : 0 ≤ v.toInt ∧ v.toInt ≤ B) : Good B (upd (upd (upd r 1 v) 2 0) 5 1) g := by
  refine ⟨Pw_updB (Pw_upd (Pw_upd h.1 (by omega) (by omega) (by omega)) (by omega) (by omega) (by omega)) (by omega) (Or.inr rfl), R9_upd (R9_upd (R9_upd h.2.1 (by omega)) (by omega)) (by omega), ?_, C7_upd (C7_upd (C7_upd h.2.2.2.1 (by omega)) (by omega)) (by omega), Gw_upd (Gw_upd (Gw_upd h.2.2.2.2 (by omega)) (by omega)) (by omega)⟩
  have e0 : (0 : Int32).toInt = 0 := by decide +kernel
  refine ⟨fun z => absurd ((show pdom r = 3 from z).symm.trans h0) (by decide), hv, ?_, h.2.2.1.2.2.2⟩
  show -1000000 < (0 : Int32).toInt ∧ (0 : Int32).toInt < 1000000
  rw [e0]; decide
theorem Good_err {B : Int} {v : Int32} {r : Nat → Int32} {g : Nat → Nat → Int32} (h : Good B r g) (hv : -500 ≤ v.toInt ∧ v.toInt ≤ 500) : Good B (upd r 3 v) g :=
  ⟨Pw_upd h.1 (by omega) (by omega) (by omega), R9_upd h.2.1 (by omega), ⟨h.2.2.1.1, h.2.2.1.2.1, h.2.2.1.2.2.1, hv, h.2.2.1.2.2.2.2⟩, C7_upd h.2.2.2.1 (by omega), Gw_upd h.2.2.2.2 (by omega)⟩
theorem Good_cor {B : Int} {v : Int32} {r : Nat → Int32} {g : Nat → Nat → Int32} (h : Good B r g) (hv : -500 ≤ v.toInt ∧ v.toInt ≤ 500) : Good B (upd r 4 v) g :=
  ⟨Pw_upd h.1 (by omega) (by omega) (by omega), R9_upd h.2.1 (by omega), Cw_upd4 h.2.2.1 hv, C7_upd h.2.2.2.1 (by omega), Gw_upd h.2.2.2.2 (by omega)⟩
