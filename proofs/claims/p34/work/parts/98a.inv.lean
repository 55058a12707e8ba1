/-! p34: what more holds of a page between the calls: accounts, tampers, losses, registers, rows; a clock without power -/
theorem t_0 : (0 : Int32).toInt = 0 := by decide +kernel
theorem t_1 : (1 : Int32).toInt = 1 := by decide +kernel
theorem t_2 : (2 : Int32).toInt = 2 := by decide +kernel
theorem t_3 : (3 : Int32).toInt = 3 := by decide +kernel
theorem t_6 : (6 : Int32).toInt = 6 := by decide +kernel
def Dz (r : Nat → Int32) : Prop := (∀ k, 16 ≤ k → k < 24 → r k = 0) ∧ r 2 = 0 ∧ r 5 = 0 ∧ r 11 = 0 ∧ 0 < (r 10).toInt ∧ r 28 = 0 ∧ r 31 = 0 ∧ r 34 = 0 ∧ r 37 = 0
abbrev dzK (k : Nat) : Prop := k = 2 ∨ k = 5 ∨ k = 10 ∨ k = 11 ∨ (16 ≤ k ∧ k < 24) ∨ k = 28 ∨ k = 31 ∨ k = 34 ∨ k = 37
theorem Dz_of {r q : Nat → Int32} (h : Dz r) (hk : ∀ k, dzK k → q k = r k) : Dz q := by
  unfold Dz
  rw [hk 2 (by omega), hk 5 (by omega), hk 11 (by omega), hk 10 (by omega), hk 28 (by omega), hk 31 (by omega), hk 34 (by omega), hk 37 (by omega)]
  exact ⟨fun k h1 h2 => by rw [hk k (by omega)]; exact h.1 k h1 h2, h.2⟩
theorem Dz_upd {r : Nat → Int32} {i : Nat} {v : Int32} (h : Dz r) (hi : ¬ dzK i) : Dz (upd r i v) := Dz_of h fun k hk => (upd_gen r v (fun e : k = i => by subst e; exact hi hk)).symm
def SY (M : Int) (r : Nat → Int32) (g : Nat → Nat → Int32) : Prop :=
  ((0 ≤ (r 12).toInt ∧ 0 ≤ (r 13).toInt ∧ 0 ≤ (r 14).toInt ∧ 0 ≤ (r 15).toInt) ∧ (r 12).toInt + (r 13).toInt + (r 14).toInt + (r 15).toInt = (r 0).toInt ∧ (r 0).toInt ≤ M) ∧
  ((r 11).toInt ≤ (r 8).toInt ∧ (r 8).toInt ≤ M) ∧ (0 ≤ (r 10).toInt ∧ (r 10).toInt ≤ M) ∧ (r 7).toInt ≤ 9999 ∧
  (∀ k, 16 ≤ k → k < 24 → 0 ≤ (r k).toInt ∧ (r k).toInt ≤ 255) ∧
  ∀ j, j < 6 → nI j < r 11 → (0 ≤ (g 0 j).toInt ∧ (g 0 j).toInt < 3) ∧ 0 ≤ (g 2 j).toInt ∧ (g 2 j).toInt < 3
abbrev syK (k : Nat) : Prop := k = 0 ∨ k = 7 ∨ k = 8 ∨ k = 10 ∨ (11 ≤ k ∧ k < 24)
theorem SY_of {M : Int} {r q : Nat → Int32} {g : Nat → Nat → Int32} (h : SY M r g) (hk : ∀ k, syK k → q k = r k) : SY M q g := by
  unfold SY
  rw [hk 12 (by omega), hk 13 (by omega), hk 14 (by omega), hk 15 (by omega), hk 0 (by omega), hk 11 (by omega), hk 8 (by omega), hk 10 (by omega), hk 7 (by omega)]
  exact ⟨h.1, h.2.1, h.2.2.1, h.2.2.2.1, fun k h1 h2 => by rw [hk k (by omega)]; exact h.2.2.2.2.1 k h1 h2, h.2.2.2.2.2⟩
theorem SY_up {M M2 : Int} {r : Nat → Int32} {g : Nat → Nat → Int32} (h : SY M r g) (hM : M ≤ M2) : SY M2 r g :=
  ⟨⟨h.1.1, h.1.2.1, Int.le_trans h.1.2.2 hM⟩, ⟨h.2.1.1, Int.le_trans h.2.1.2 hM⟩, ⟨h.2.2.1.1, Int.le_trans h.2.2.1.2 hM⟩, h.2.2.2⟩
theorem SY_upd {M : Int} {r : Nat → Int32} {g : Nat → Nat → Int32} {i : Nat} {v : Int32} (h : SY M r g) (hi : ¬ syK i) : SY M (upd r i v) g := SY_of h fun k hk => (upd_gen r v (fun e : k = i => by subst e; exact hi hk)).symm
theorem plose_reg (q : Nat → Int32) {k : Nat} (h1 : 16 ≤ k) (h2 : k < 24) : plose q k = 0 := by
  unfold plose
  rw [← upd_gen _ _ (by omega), ← upd_gen _ _ (by omega), ← upd_gen _ _ (by omega), ← upd_gen _ _ (by omega), ← upd_gen _ _ (by omega), ← upd_gen _ _ (by omega), ← upd_gen _ _ (by omega), ← upd_gen _ _ (by omega), ← upd_gen _ _ (by omega)]
  exact perase_in q h1 h2
theorem Rw_I {r : Nat → Int32} (h : Rw r) : 0 ≤ (r 11).toInt ∧ (r 11).toInt ≤ 6 := by
  have h1 := h.1
  have h2 := h.2
  rw [fa_lt, t_0] at h1
  rw [fa_le, t_6] at h2
  omega
theorem SY_lose {M : Int} {q : Nat → Int32} {g : Nat → Nat → Int32} (h : SY M q g) (hR : Rw q) (hM : M ≤ 2000000000) : SY (M + 1) (plose q) g ∧ Dz (plose q) := by
  have h11 := Rw_I hR
  have e10 : (q 10 + 1).toInt = (q 10).toInt + 1 := by
    have := h.2.2.1
    rw [fb_addI (by rw [t_1]; omega) (by rw [t_1]; omega), t_1]
  refine ⟨⟨⟨h.1.1, h.1.2.1, by have := h.1.2.2; show (q 0).toInt ≤ _; omega⟩, ⟨?_, by have := h.2.1.2; show (q 8).toInt ≤ _; omega⟩, ⟨?_, ?_⟩, h.2.2.2.1, fun k h1 h2 => ?_, fun j hj h2 => ?_⟩, fun k h1 h2 => plose_reg q h1 h2, rfl, rfl, rfl, ?_, rfl, rfl, rfl, rfl⟩
  · show (0 : Int32).toInt ≤ (q 8).toInt
    have := h.2.1.1
    rw [t_0]; omega
  · show 0 ≤ (q 10 + 1).toInt
    have := h.2.2.1
    omega
  · show (q 10 + 1).toInt ≤ _
    have := h.2.2.1
    omega
  · rw [plose_reg q h1 h2, t_0]; omega
  · have h3 : nI j < 0 := h2
    exact absurd h3 (nI_pos (by omega))
  · show 0 < (q 10 + 1).toInt
    have := h.2.2.1
    omega
theorem dom_of {q r : Nat → Int32} (h6 : q 6 = r 6) (h7 : q 7 = r 7) : pdom q = pdom r := by
  show domv _ _ = domv _ _
  rw [h6, h7]
def SX (M : Int) (r : Nat → Int32) (g : Nat → Nat → Int32) : Prop := SY M r g ∧ (pdom r = 3 → Dz r)
theorem SX_up {M M2 : Int} {r : Nat → Int32} {g : Nat → Nat → Int32} (h : SX M r g) (hM : M ≤ M2) : SX M2 r g := ⟨SY_up h.1 hM, h.2⟩
theorem SX_settle {M : Int} {b : Int32} {q : Nat → Int32} {g : Nat → Nat → Int32} (h : SY M q g) (hR : Rw q) (hM : M ≤ 2000000000) (hb : b = 3 → Dz q) : SX (M + 1) (psettle b q) g := by
  unfold psettle
  by_cases c1 : pdom q = b
  · rw [if_pos c1]; exact ⟨SY_up h (by omega), fun z => hb (c1.symm.trans z)⟩
  · rw [if_neg c1]
    by_cases c2 : pdom q = 3
    · rw [if_pos c2]
      have hl := SY_lose h hR hM
      exact ⟨hl.1, fun _ => hl.2⟩
    · rw [if_neg c2]
      by_cases c3 : pdom q = 0
      · rw [if_pos c3]
        refine ⟨SY_up (SY_of h fun k hk => pring4_out q (by omega) (by omega)) (by omega), fun z => ?_⟩
        rw [dom_of (pring4_out q (by omega) (by omega)) (pring4_out q (by omega) (by omega)), c3] at z
        exact absurd z (by decide)
      · rw [if_neg c3]; exact ⟨SY_up h (by omega), fun z => absurd z c2⟩
theorem SX_level {M : Int} {v : Int32} {r : Nat → Int32} {g : Nat → Nat → Int32} (h : SX M r g) (hR : Rw r) (hM : M ≤ 2000000000) : SX (M + 1) (plevel v r) g :=
  SX_settle (SY_upd h.1 (by omega)) (Rw_eq hR rfl) hM (fun z => Dz_upd (h.2 z) (by omega))
theorem SY_charge {M : Int} {v : Int32} {r : Nat → Int32} {g : Nat → Nat → Int32} (h : SY M r g) (hv : v.toInt ≤ 9999) : SY M (upd r 7 v) g :=
  ⟨h.1, h.2.1, h.2.2.1, hv, fun k h1 h2 => by rw [← upd_gen r v (by omega)]; exact h.2.2.2.2.1 k h1 h2, h.2.2.2.2.2⟩
theorem SX_charge {M : Int} {v : Int32} {r : Nat → Int32} {g : Nat → Nat → Int32} (h : SX M r g) (hR : Rw r) (hM : M ≤ 2000000000) (hv : v.toInt ≤ 9999) : SX (M + 1) (pcharge v r) g :=
  SX_settle (SY_charge h.1 hv) (Rw_eq hR rfl) hM (fun z => Dz_upd (h.2 z) (by omega))
theorem SX_upd {M : Int} {i : Nat} {v : Int32} {r : Nat → Int32} {g : Nat → Nat → Int32} (h : SX M r g) (hi : ¬ syK i) (hd : ¬ dzK i) (h6 : i ≠ 6) : SX M (upd r i v) g :=
  ⟨SY_upd h.1 hi, fun z => Dz_upd (h.2 ((dom_of (upd_gen r v (Ne.symm h6)) (upd_gen r v (fun e => hi (by omega)))).trans z)) hd⟩
theorem SX_main {M : Int} {q r : Nat → Int32} {g : Nat → Nat → Int32} (h : SY M q g) (h0 : pdom r = 0) (h6 : q 6 = r 6) (h7 : q 7 = r 7) : SX M q g :=
  ⟨h, fun z => absurd ((dom_of h6 h7).symm.trans z) (by rw [h0]; decide)⟩
theorem SX_ne {M : Int} {q r : Nat → Int32} {g : Nat → Nat → Int32} (h : SY M q g) (h3 : ¬ pdom r = 3) (h6 : q 6 = r 6) (h7 : q 7 = r 7) : SX M q g :=
  ⟨h, fun z => absurd ((dom_of h6 h7).symm.trans z) h3⟩
theorem SX_time {M : Int} {v : Int32} {r : Nat → Int32} {g : Nat → Nat → Int32} (h : SX M r g) (h0 : pdom r = 0) : SX M (upd (upd (upd r 1 v) 2 0) 5 1) g :=
  SX_main (SY_upd (SY_upd (SY_upd h.1 (by omega)) (by omega)) (by omega)) h0 rfl rfl
theorem SX_write {M : Int} {J : Nat} {v : Int32} {r : Nat → Int32} {g : Nat → Nat → Int32} (h : SX M r g) (h0 : pdom r = 0) (hJ : J < 8) (hv : 0 ≤ v.toInt ∧ v.toInt ≤ 255) : SX M (upd r (16 + J) v) g := by
  have f : ∀ k, k < 16 → upd r (16 + J) v k = r k := fun k hk => (upd_gen r v (by omega)).symm
  refine SX_main ?_ h0 (f 6 (by omega)) (f 7 (by omega))
  unfold SY
  rw [f 12 (by omega), f 13 (by omega), f 14 (by omega), f 15 (by omega), f 0 (by omega), f 11 (by omega), f 8 (by omega), f 10 (by omega), f 7 (by omega)]
  refine ⟨h.1.1, h.1.2.1, h.1.2.2.1, h.1.2.2.2.1, fun k h1 h2 => ?_, h.1.2.2.2.2.2⟩
  by_cases e : k = 16 + J
  · rw [show upd r (16 + J) v k = v from if_pos e]; exact hv
  · rw [← upd_gen r v e]; exact h.1.2.2.2.2.1 k h1 h2
theorem SX_clear {M : Int} {r : Nat → Int32} {g : Nat → Nat → Int32} (h : SX M r g) (hR : Rw r) (h0 : pdom r = 0) : SX M (upd r 11 0) g := by
  have h11 := Rw_I hR
  refine SX_main ⟨h.1.1, ⟨?_, h.1.2.1.2⟩, h.1.2.2.1, h.1.2.2.2.1, fun k h1 h2 => by rw [← upd_gen r 0 (by omega)]; exact h.1.2.2.2.2.1 k h1 h2, fun j hj h2 => ?_⟩ h0 rfl rfl
  · show (0 : Int32).toInt ≤ (r 8).toInt
    have := h.1.2.1.1
    rw [t_0]; omega
  · have h3 : nI j < 0 := h2
    exact absurd h3 (nI_pos (by omega))
theorem SX_setAl {M : Int} {i : Nat} {v : Int32} {r : Nat → Int32} {g : Nat → Nat → Int32} (h : SX M r g) (hi : i < 4) : SX M (psetAl i v r) g := by
  refine ⟨SY_upd (SY_upd h.1 (by omega)) (by omega), fun z => ?_⟩
  have hd := Dz_upd (i := 27 + 3 * i) (v := if v = 1440 then -99999999 else v) (h.2 ((dom_of (q := r) (r := psetAl i v r) ((upd_gen r _ (by omega)).trans (upd_gen _ _ (by omega))) ((upd_gen r _ (by omega)).trans (upd_gen _ _ (by omega)))).trans z)) (by omega)
  have f : ∀ k, upd r (27 + 3 * i) (if v = 1440 then -99999999 else v) k = 0 → psetAl i v r k = 0 := fun k e => by
    unfold psetAl upd
    unfold upd at e
    split
    · rfl
    · exact e
  have f2 : ∀ k, k < 24 → psetAl i v r k = upd r (27 + 3 * i) (if v = 1440 then -99999999 else v) k := fun k hk => (upd_gen _ _ (by omega)).symm
  obtain ⟨d1, d2, d3, d4, d5, d6, d7, d8, d9⟩ := hd
  exact ⟨fun k h1 h2 => f k (d1 k h1 h2), f 2 d2, f 5 d3, f 11 d4, by rw [f2 10 (by omega)]; exact d5, f 28 d6, f 31 d7, f 34 d8, f 37 d9⟩
theorem dom_I (r : Nat → Int32) (h : ¬ pdom r = 3) : 0 ≤ (pdom r).toInt ∧ (pdom r).toInt < 3 := by
  have h2 := domv_or (r 6) (r 7)
  rcases h2 with q | q | q | q
  · rw [show pdom r = 0 from q, t_0]; omega
  · rw [show pdom r = 1 from q, t_1]; omega
  · rw [show pdom r = 2 from q, t_2]; omega
  · exact absurd q h
theorem SX_tamper {M : Int} {p : Int32} {r : Nat → Int32} {g : Nat → Nat → Int32} (h : SX M r g) (hR : Rw r) (hM : M ≤ 2000000000) (hp : 0 ≤ p.toInt ∧ p.toInt < 3) : SX (M + 1) (ptamper p r) (ptamG p r g) := by
  have h11 := Rw_I hR
  have h8 := h.1.2.1
  unfold ptamper ptamG
  by_cases c1 : r (24 + p.toNatClampNeg) = 1
  · rw [if_pos c1, if_pos c1]
    by_cases c2 : pdom r = 3
    · rw [if_pos c2, if_pos c2]; exact SX_up h (by omega)
    · rw [if_neg c2, if_neg c2]
      have f : ∀ k, k ≠ 8 → k ≠ 11 → k < 39 → (k < 16 ∨ 24 ≤ k) → ptamR p r k = r k := fun k k1 k2 k3 k4 => (ptamR_ne p hR.1 k1 k2 k3).trans (perase_ne r k4)
      have e8 : (r 8 + 1).toInt = (r 8).toInt + 1 := by rw [fb_addI (by rw [t_1]; omega) (by rw [t_1]; omega), t_1]
      have e11 : (r 11 + 1).toInt = (r 11).toInt + 1 := by rw [fb_addI (by rw [t_1]; omega) (by rw [t_1]; omega), t_1]
      refine SX_ne ?_ c2 (f 6 (by omega) (by omega) (by omega) (by omega)) (f 7 (by omega) (by omega) (by omega) (by omega))
      unfold SY
      rw [f 12 (by omega) (by omega) (by omega) (by omega), f 13 (by omega) (by omega) (by omega) (by omega), f 14 (by omega) (by omega) (by omega) (by omega), f 15 (by omega) (by omega) (by omega) (by omega), f 0 (by omega) (by omega) (by omega) (by omega), f 10 (by omega) (by omega) (by omega) (by omega), f 7 (by omega) (by omega) (by omega) (by omega), ptamR_8, ptamR_11]
      refine ⟨⟨h.1.1.1, h.1.1.2.1, by have := h.1.1.2.2; omega⟩, ⟨?_, by omega⟩, ⟨h.1.2.2.1.1, by have := h.1.2.2.1.2; omega⟩, h.1.2.2.2.1, fun k h1 h2 => ?_, fun j hj h2 => ?_⟩
      · split
        · omega
        · omega
      · rw [ptamR_ne p hR.1 (by omega) (by omega) (by omega), perase_in r h1 h2, t_0]; omega
      · show (0 ≤ (rowUp (r 11) (g 0) p j).toInt ∧ (rowUp (r 11) (g 0) p j).toInt < 3) ∧ 0 ≤ (rowUp (r 11) (g 2) (pdom r) j).toInt ∧ (rowUp (r 11) (g 2) (pdom r) j).toInt < 3
        by_cases c3 : r 11 < 6
        · rw [if_pos c3] at h2
          rw [rowUp_at c3, rowUp_at c3]
          by_cases e : j = (r 11).toNatClampNeg
          · rw [show upd (g 0) (r 11).toNatClampNeg p j = p from if_pos e, show upd (g 2) (r 11).toNatClampNeg (pdom r) j = pdom r from if_pos e]
            exact ⟨hp, dom_I r c2⟩
          · rw [← upd_gen (g 0) p e, ← upd_gen (g 2) (pdom r) e]
            refine h.1.2.2.2.2.2 j hj ?_
            obtain ⟨w, hw2, hw⟩ := nI_of hR.1
            have hwn : (w : Int) ≤ 6 := by
              have e6 := nI_toInt hw2
              rw [← hw] at e6
              omega
            rw [show (r 11).toNatClampNeg = w by rw [hw]; exact nI_clamp hw2] at e
            rw [hw] at h2 ⊢
            rw [show nI w + 1 = nI (w + 1) from nI_add w 1, nI_ltI (by omega) (by omega)] at h2
            rw [nI_ltI (by omega) (by omega)]
            omega
        · rw [if_neg c3] at h2
          unfold rowUp
          rw [if_neg c3, if_neg c3]
          exact h.1.2.2.2.2.2 j hj h2
  · rw [if_neg c1, if_neg c1]; exact SX_up h (by omega)
theorem spend_12 (r : Nat → Int32) (k : Nat) (hk : k < 4) : pspend r (12 + k) = if k = (pdom r).toNatClampNeg then r (12 + (pdom r).toNatClampNeg) + 1 else r (12 + k) := (pspend_12 r k hk).symm
theorem SY_spend {M : Int} {r : Nat → Int32} {g : Nat → Nat → Int32} (h : SY M r g) (h7 : C7 r) (hM : M ≤ 2000000000) : SY (M + 1) (pspend r) g := by
  have f : ∀ k, k ≠ 0 → k ≠ 7 → (k < 12 ∨ 16 ≤ k) → pspend r k = r k := fun k a b c => pspend_ne r a b c
  have e12 := spend_12 r 0 (by omega)
  have e13 := spend_12 r 1 (by omega)
  have e14 := spend_12 r 2 (by omega)
  have e15 := spend_12 r 3 (by omega)
  have hd := pdom_nat r
  generalize (pdom r).toNatClampNeg = d at e12 e13 e14 e15 hd
  have inc : ∀ x : Int32, 0 ≤ x.toInt → x.toInt ≤ M → (x + 1).toInt = x.toInt + 1 := fun x a b => by rw [fb_addI (by rw [t_1]; omega) (by rw [t_1]; omega), t_1]
  have hs := h.1
  have e0 := inc (r 0) (by omega) hs.2.2
  have e7 : (pspend r 7).toInt ≤ 9999 := by
    have h9 := h.2.2.2.1
    have h77 : 0 ≤ (r 7).toInt := h7
    rw [pspend_7]
    split
    · rw [fb_subI (by rw [t_1]; omega) (by rw [t_1]; omega), t_1]; omega
    · exact h9
  refine ⟨?_, ⟨?_, ?_⟩, ⟨?_, ?_⟩, e7, fun k h1 h2 => ?_, fun j hj h2 => ?_⟩
  · rw [pspend_0, e0]
    have i12 := inc (r 12) (by omega) (by omega)
    have i13 := inc (r 13) (by omega) (by omega)
    have i14 := inc (r 14) (by omega) (by omega)
    have i15 := inc (r 15) (by omega) (by omega)
    rcases (show d = 0 ∨ d = 1 ∨ d = 2 ∨ d = 3 by omega) with q | q | q | q <;> subst q
    · rw [show pspend r 12 = r 12 + 1 from e12, show pspend r 13 = r 13 from e13, show pspend r 14 = r 14 from e14, show pspend r 15 = r 15 from e15]; omega
    · rw [show pspend r 12 = r 12 from e12, show pspend r 13 = r 13 + 1 from e13, show pspend r 14 = r 14 from e14, show pspend r 15 = r 15 from e15]; omega
    · rw [show pspend r 12 = r 12 from e12, show pspend r 13 = r 13 from e13, show pspend r 14 = r 14 + 1 from e14, show pspend r 15 = r 15 from e15]; omega
    · rw [show pspend r 12 = r 12 from e12, show pspend r 13 = r 13 from e13, show pspend r 14 = r 14 from e14, show pspend r 15 = r 15 + 1 from e15]; omega
  · rw [f 11 (by omega) (by omega) (by omega), f 8 (by omega) (by omega) (by omega)]; exact h.2.1.1
  · rw [f 8 (by omega) (by omega) (by omega)]; have := h.2.1.2; omega
  · rw [f 10 (by omega) (by omega) (by omega)]; exact h.2.2.1.1
  · rw [f 10 (by omega) (by omega) (by omega)]; have := h.2.2.1.2; omega
  · rw [f k (by omega) (by omega) (by omega)]; exact h.2.2.2.2.1 k h1 h2
  · rw [f 11 (by omega) (by omega) (by omega)] at h2; exact h.2.2.2.2.2 j hj h2
theorem dstep_out {u v : Int32} {i : Nat} {r : Nat → Int32} {k : Nat} (h9 : k ≠ 9) (hk : k < 28) : pdueStep u v i r k = r k := by
  unfold pdueStep
  split
  · split
    · unfold pring; rw [← upd_gen _ _ h9, ← upd_gen _ _ (by omega), ← upd_gen _ _ (by omega)]
    · rw [← upd_gen _ _ (by omega)]
  · rfl
theorem dfrom_out {u v : Int32} : ∀ (n i : Nat) {r : Nat → Int32} {k : Nat}, k ≠ 9 → k < 28 → pdueFrom u v n i r k = r k := by
  intro n
  induction n with
  | zero => intro i r k _ _; rfl
  | succ n ih => intro i r k h9 hk; exact (ih (i + 1) h9 hk).trans (dstep_out h9 hk)
theorem pgo_out (p : Nat → Int32) {k : Nat} (h1 : k ≠ 1) (h2 : k ≠ 2) (h9 : k ≠ 9) (hk : k < 28) : pgo p k = p k := by
  refine (dfrom_out 4 0 h9 hk).trans ?_
  unfold pclock
  rw [← upd_gen _ _ h2, ← upd_gen _ _ h1]
theorem SX_pm2 {M : Int} {r : Nat → Int32} {g : Nat → Nat → Int32} (h : SX M r g) (hR : Rw r) (h7 : C7 r) (hM : M + 1 ≤ 2000000000) : SX (M + 2) (pm2 r) g := by
  have e := SX_settle (b := pdom r) (SY_spend h.1 h7 (by omega)) (Rw_eq hR (pspend_ne r (by omega) (by omega) (by omega))) hM (fun z => Dz_of (h.2 z) fun k hk => pspend_ne r (by omega) (by omega) (by omega))
  exact SX_up e (by omega)
theorem SX_minute {M : Int} {r : Nat → Int32} {g : Nat → Nat → Int32} (h : SX M r g) (hR : Rw r) (h7 : C7 r) (hM : M + 1 ≤ 2000000000) : SX (M + 2) (pminute r) g := by
  have h2 := SX_pm2 h hR h7 hM
  by_cases c : pdom (pm2 r) = 3
  · rw [pminute_dead c]; exact h2
  · rw [pminute_live c]
    exact SX_ne (SY_of h2.1 fun k hk => pgo_out _ (by omega) (by omega) (by omega) (by omega)) c (pgo_out _ (by omega) (by omega) (by omega) (by omega)) (pgo_out _ (by omega) (by omega) (by omega) (by omega))
theorem SX_mins : ∀ (n : Nat) {M : Int} {r : Nat → Int32} {g : Nat → Nat → Int32}, SX M r g → Rw r → C7 r → M + 2 * n ≤ 2000000000 → SX (M + 2 * n) (minsR n r) g := by
  intro n
  induction n with
  | zero => intro M r g h _ _ _; exact SX_up h (by omega)
  | succ n ih =>
    intro M r g h hR h7 hM
    exact SX_up (ih (SX_minute h hR h7 (by omega)) (Rw_minute hR) (C7_minute h7) (by omega)) (by omega)
/-! a clock's page, whole -/
def SG (B M : Int) (P : CPg) : Prop := Good B P.1 P.2.2.2 ∧ SX M P.1 P.2.2.2
section SGS
variable {B M : Int} {P : CPg}
theorem SG_up {B2 M2 : Int} (h : SG B M P) (hB : B ≤ B2) (hM : M ≤ M2) : SG B2 M2 P := ⟨Good_up h.1 hB, SX_up h.2 hM⟩
theorem SG_Rw (h : SG B M P) : Rw P.1 := h.1.1.1
theorem SG_Pw (h : SG B M P) : Pw P.1 := h.1.1
theorem SG_Iw (h : SG B M P) : Iw P.1 := h.1.1.2.2
theorem SG_Bw (h : SG B M P) : Bw P.1 := h.1.1.2.1
theorem SG_Cw (h : SG B M P) : Cw B P.1 := h.1.2.2.1
theorem SG_C7 (h : SG B M P) : C7 P.1 := h.1.2.2.2.1
theorem SG_pass {n : Nat} (h : SG B M P) (hB : B + 61 * n ≤ 2000000000) (hM : M + 2 * n ≤ 2000000000) : SG (B + 61 * n) (M + 2 * n) (passP n P) := ⟨Good_mins h.1 hB, SX_mins n h.2 (SG_Rw h) (SG_C7 h) hM⟩
theorem SG_level {v : Int32} (h : SG B M P) (hM : M ≤ 2000000000) : SG B (M + 1) ((plevel v P.1), P.2) := ⟨Good_level h.1, SX_level h.2 (SG_Rw h) hM⟩
theorem SG_charge {v : Int32} (h : SG B M P) (hM : M ≤ 2000000000) (hv : inR v 0 9999) : SG B (M + 1) ((pcharge v P.1), P.2) := by
  have q := inR_c.mp hv
  rw [t_0, show (9999 : Int32).toInt = 9999 from by decide +kernel] at q
  exact ⟨Good_charge h.1 q.1, SX_charge h.2 (SG_Rw h) hM q.2⟩
theorem SG_tamper {i : Int32} (h : SG B M P) (hM : M ≤ 2000000000) (hi : inI i 3) : SG B (M + 1) (tamP i P) := by
  have q := inI_c.mp hi
  rw [t_3] at q
  exact ⟨Good_tamper h.1, SX_tamper h.2 (SG_Rw h) hM q⟩
theorem SG_age {v : Int32} (h : SG B M P) (hv : inR v (-500) 500) : SG B M ((upd P.1 3 v), P.2) := by
  have q := inR_c.mp hv
  rw [show (-500 : Int32).toInt = -500 from by decide +kernel, show (500 : Int32).toInt = 500 from by decide +kernel] at q
  exact ⟨Good_err h.1 q, SX_upd h.2 (by omega) (by omega) (by omega)⟩
theorem SG_cor {v : Int32} (h : SG B M P) (hv : inR v (-500) 500) : SG B M ((upd P.1 4 v), P.2) := by
  have q := inR_c.mp hv
  rw [show (-500 : Int32).toInt = -500 from by decide +kernel, show (500 : Int32).toInt = 500 from by decide +kernel] at q
  exact ⟨Good_cor h.1 q, SX_upd h.2 (by omega) (by omega) (by omega)⟩
theorem SG_time {v : Int32} (h : SG B M P) (hv : inR v 0 99999999) (h0 : pdom P.1 = 0) (hB : 99999999 ≤ B) : SG B M ((upd (upd (upd P.1 1 v) 2 0) 5 1), P.2) := by
  have q := inR_c.mp hv
  rw [t_0, show (99999999 : Int32).toInt = 99999999 from by decide +kernel] at q
  exact ⟨Good_time h.1 h0 ⟨q.1, Int.le_trans q.2 hB⟩, SX_time h.2 h0⟩
theorem SG_write {J : Nat} {v : Int32} (h : SG B M P) (hJ : J < 8) (hv : inR v 0 255) (h0 : pdom P.1 = 0) : SG B M ((upd P.1 (16 + J) v), P.2) := by
  have q := inR_c.mp hv
  rw [t_0, show (255 : Int32).toInt = 255 from by decide +kernel] at q
  exact ⟨Good_write h.1 hJ, SX_write h.2 h0 hJ q⟩
theorem SG_guard {J : Nat} {v : Int32} (h : SG B M P) (hJ : J < 3) (hv : v = 0 ∨ v = 1) : SG B M ((upd P.1 (24 + J) v), P.2) := ⟨Good_guard h.1 hJ hv, SX_upd h.2 (by omega) (by omega) (by omega)⟩
theorem SG_clear (h : SG B M P) (h0 : pdom P.1 = 0) : SG B M ((upd P.1 11 0), P.2) := ⟨Good_clear h.1, SX_clear h.2 (SG_Rw h) h0⟩
theorem SG_setAl {i : Nat} {v : Int32} (h : SG B M P) (hi : i < 4) : SG B M ((psetAl i v P.1), P.2) := ⟨Good_setAl h.1 hi, SX_setAl h.2 hi⟩
end SGS
