/-! one minute, held against the one before -/
def endsv (r : Nat → Int32) : Int32 := if (pdom r = 1 ∨ pdom r = 2) ∧ r 7 = 1 then 1 else 0
def deadv (r : Nat → Int32) : Int32 := if pdom r = 3 ∨ ((pdom r = 1 ∨ pdom r = 2) ∧ r 7 = 1) then 1 else 0
def batv (r : Nat → Int32) : Int32 := if pdom r = 1 ∨ pdom r = 2 then 1 else 0
def ddv (r : Nat → Int32) : Int32 := if deadv r = 0 then pdom r else 3
theorem deadv_or (r : Nat → Int32) : deadv r = 0 ∨ deadv r = 1 := by
  unfold deadv
  split
  · exact Or.inr rfl
  · exact Or.inl rfl
theorem deadv_y {r : Nat → Int32} (h : ¬ deadv r = 0) : pdom r = 3 ∨ ((pdom r = 1 ∨ pdom r = 2) ∧ r 7 = 1) := Classical.byContradiction fun q => h (if_neg q)
theorem deadv_n {r : Nat → Int32} (h : deadv r = 0) : ¬ (pdom r = 3 ∨ ((pdom r = 1 ∨ pdom r = 2) ∧ r 7 = 1)) := fun q => absurd ((show deadv r = 1 from if_pos q).symm.trans h) (by decide)
theorem dom_lt6 {r : Nat → Int32} (h : ¬ pdom r = 0) : r 6 < 6 := Classical.byContradiction fun q => h (dom0 q)
/-- the domain behind a minute -/
theorem mn_dom (r : Nat → Int32) : pdom (pminute r) = ddv r := by
  have e6 := pminute_6 r
  have e7 := pminute_7 r
  unfold ddv
  by_cases h0 : pdom r = 0
  · have hd : deadv r = 0 := if_neg (fun q => by
      rw [h0] at q
      rcases q with q | q
      · exact absurd q (by decide)
      · exact absurd q.1 (by decide))
    rw [if_pos hd, h0]
    exact dom0 (by rw [e6]; exact dom0' h0)
  · have h6 := dom_lt6 h0
    have h66 : pminute r 6 < 6 := by rw [e6]; exact h6
    by_cases h3 : pdom r = 3
    · have hd : deadv r = 1 := if_pos (Or.inl h3)
      rw [hd, if_neg (by decide)]
      rw [if_neg (by rw [h3]; decide)] at e7
      exact (dom_3 h66).mpr (e7.trans ((dom_3 h6).mp h3))
    · have h7 : ¬ r 7 = 0 := fun q => h3 ((dom_3 h6).mpr q)
      have h12 := dom_12b h6 h7
      rw [if_pos h12] at e7
      by_cases h1 : r 7 = 1
      · have hd : deadv r = 1 := if_pos (Or.inr ⟨h12, h1⟩)
        rw [hd, if_neg (by decide)]
        exact (dom_3 h66).mpr (by rw [e7, h1]; decide)
      · have hd : deadv r = 0 := if_neg (fun q => q.elim h3 (fun z => h1 z.2))
        rw [if_pos hd]
        have h77 : ¬ pminute r 7 = 0 := fun q => h1 (by
          rw [e7] at q
          have := (fa_eq _ _).mp q
          have hh := fb_rng (r 7)
          rw [t_0] at this
          rw [fa_eq, t_1]
          rcases Classical.em ((r 7).toInt = -2147483648) with z | z
          · rw [Int32.toInt_sub, z, t_1] at this
            exact absurd this (by decide)
          · rw [fb_subI (by rw [t_1]; omega) (by rw [t_1]; omega), t_1] at this
            omega)
        show domv _ _ = domv _ _
        unfold domv
        rw [if_pos h66, if_neg h77, if_pos h6, if_neg h7, e6]
theorem mn_dead {r : Nat → Int32} (h : ¬ deadv r = 0) : pdom (pm2 r) = 3 := (pdom_pm2 r).trans ((mn_dom r).trans (if_neg h))
theorem mn_live {r : Nat → Int32} (h : deadv r = 0) : ¬ pdom (pm2 r) = 3 := fun q => by
  have e := (pdom_pm2 r).symm.trans q
  rw [mn_dom r] at e
  exact deadv_n h (Or.inl ((show ddv r = pdom r from if_pos h).symm.trans e))
theorem mn_7 (r : Nat → Int32) : pminute r 7 = r 7 - batv r := by
  rw [pminute_7]
  unfold batv
  split
  · rfl
  · exact (Int32.sub_zero _).symm
theorem pm2_ring (r : Nat → Int32) (h : pdom (pspend r) = 0) : pdom r = 0 := by
  have h6 := dom0' h
  rw [(pspend_in r).2.2.2.2] at h6
  exact dom0 h6
/-- a minute rings nothing by itself: the page behind the account -/
theorem pm2_two (r : Nat → Int32) : (pm2 r = pspend r ∧ endsv r = 0) ∨ (pm2 r = plose (pspend r) ∧ endsv r = 1) := by
  have e6 := (pspend_in r).2.2.2.2
  have e7 : pspend r 7 = if pdom r = 1 ∨ pdom r = 2 then r 7 - 1 else r 7 := pspend_7 r
  by_cases he : (pdom r = 1 ∨ pdom r = 2) ∧ r 7 = 1
  · refine Or.inr ⟨?_, if_pos he⟩
    have h0 : ¬ pdom r = 0 := fun q => by rw [q] at he; exact absurd he.1 (by decide)
    have h6 : pspend r 6 < 6 := by rw [e6]; exact dom_lt6 h0
    have h3 : pdom (pspend r) = 3 := (dom_3 h6).mpr (by rw [e7, if_pos he.1, he.2]; decide)
    unfold pm2 psettle
    rw [if_neg (by rw [h3]; intro q; rw [← q] at he; exact absurd he.1 (by decide)), if_pos h3]
  · refine Or.inl ⟨?_, if_neg he⟩
    have hdd : pdom (pspend r) = pdom r := by
      by_cases h0 : pdom r = 0
      · rw [h0]; exact dom0 (by rw [e6]; exact dom0' h0)
      · have h6 := dom_lt6 h0
        by_cases h12 : pdom r = 1 ∨ pdom r = 2
        · have h1 : ¬ r 7 = 1 := fun q => he ⟨h12, q⟩
          have hd : deadv r = 0 := if_neg (fun q => q.elim (fun z => by rw [z] at h12; exact absurd h12 (by decide)) he)
          have hm := mn_dom r
          have e8 := pminute_7 r
          rw [if_pos h12] at e8 e7
          have : pdom (pspend r) = pdom (pminute r) := dom_of (by rw [e6, pminute_6]) (by rw [e7, e8])
          rw [this, hm]
          exact if_pos hd
        · exact dom_of e6 (by rw [e7, if_neg h12])
    unfold pm2 psettle
    rw [if_pos hdd]
theorem mn_k {r : Nat → Int32} (hl : deadv r = 0) : pm2 r = pspend r := by
  rcases pm2_two r with q | q
  · exact q.1
  · refine absurd ?_ (deadv_n hl)
    have : (pdom r = 1 ∨ pdom r = 2) ∧ r 7 = 1 := Classical.byContradiction fun z => absurd ((show endsv r = 0 from if_neg z).symm.trans q.2) (by decide)
    exact Or.inr this
theorem mn_10 (r : Nat → Int32) : pminute r 10 = r 10 + endsv r := by
  have e : pminute r 10 = pm2 r 10 := by
    by_cases c : pdom (pm2 r) = 3
    · rw [pminute_dead c]
    · rw [pminute_live c]; exact pgo_out _ (by omega) (by omega) (by omega) (by omega)
  rw [e]
  have es : pspend r 10 = r 10 := pspend_ne r (by omega) (by omega) (by omega)
  rcases pm2_two r with q | q
  · rw [q.1, q.2, es]; exact (Int32.add_zero _).symm
  · rw [q.1, q.2]
    show pspend r 10 + 1 = _
    rw [es]
theorem mn_4 {r : Nat → Int32} (hl : deadv r = 0) : pminute r 4 = r 4 ∧ pminute r 3 = r 3 := by
  have c := mn_live hl
  have h := pm2_live c
  rw [pminute_live c, (pgo_in _).2.2.2.1, (pgo_in _).2.2.1]
  exact ⟨h.2.2.2.1, h.2.2.1⟩
theorem mn_X (r : Nat → Int32) (x : Int64) : minX r x = x + Int32.toInt64 (if deadv r = 0 then 60 * pminute r 4 else 0) := by
  unfold minX
  by_cases hl : deadv r = 0
  · rw [if_neg (mn_live hl), if_pos hl, (mn_4 hl).1, (pm2_live (mn_live hl)).2.2.2.1, Int32.mul_comm]
  · rw [if_pos (mn_dead hl), if_neg hl]
    exact (Int64.add_zero _).symm
theorem mn_Y (r : Nat → Int32) (y : Int64) : minY r y = y + Int32.toInt64 (if deadv r = 0 then 60 * (r 3 - r 4) else 0) := by
  unfold minY
  by_cases hl : deadv r = 0
  · have h := pm2_live (mn_live hl)
    rw [if_neg (mn_live hl), if_pos hl]
    unfold pdrift
    rw [h.2.2.1, h.2.2.2.1, Int32.mul_comm]
  · rw [if_pos (mn_dead hl), if_neg hl]
    exact (Int64.add_zero _).symm
theorem mn_1z {r : Nat → Int32} (hd : ¬ deadv r = 0) (h0 : pdom r = 3 → r 1 = 0) : pminute r 1 = 0 := by
  rw [pminute_dead (mn_dead hd)]
  exact pm2_dead (mn_dead hd) h0
/-- the clock of a minute in which it goes -/
theorem mn_1 {B : Int} {r : Nat → Int32} (hl : deadv r = 0) (h : Cw B r) (hB : B ≤ 1900000000) : ∃ T q : Int, T = (r 2).toInt + ((r 3).toInt - (r 4).toInt) * 60 ∧ (-1 ≤ q ∧ q ≤ 1) ∧ (pminute r 1).toInt = (r 1).toInt + 60 + q ∧ (pminute r 2).toInt = T - q * 1000000 := by
  have c := mn_live hl
  have hp := pm2_live c
  obtain ⟨T, q, h1, h2, h3, h4, h5, h6, h7⟩ := clock_I (Cw_pm2 h) (by omega)
  rw [pminute_live c]
  rw [hp.2.1, hp.2.2.1, hp.2.2.2.1] at h1
  rw [hp.1] at h4
  exact ⟨T, q, h1, h3, h4, h5⟩
theorem t_60 : (60 : Int32).toInt = 60 := by decide +kernel
theorem mn_win {B : Int} {r : Nat → Int32} (hl : deadv r = 0) (h : Cw B r) (hB : B ≤ 1900000000) : lg_cmp (1000000 * Int32.toInt64 (pminute r 1 - r 1 - 60) + Int32.toInt64 (pminute r 2) - Int32.toInt64 (r 2)) (Int32.toInt64 (60 * (r 3 - r 4))) = 0 ∧ ¬ (1 : Int32) < (if pminute r 1 - r 1 - 60 < 0 then -(pminute r 1 - r 1 - 60) else pminute r 1 - r 1 - 60) := by
  obtain ⟨T, q, h1, h3, h4, h5⟩ := mn_1 hl h hB
  have hc := h.2
  have e1 : (pminute r 1 - r 1).toInt = 60 + q := by rw [fb_subI (by omega) (by omega)]; omega
  have e2 : (pminute r 1 - r 1 - 60).toInt = q := by rw [fb_subI (by rw [t_60]; omega) (by rw [t_60]; omega), t_60]; omega
  have ed : (r 3 - r 4).toInt = (r 3).toInt - (r 4).toInt := fb_subI (by omega) (by omega)
  have e3 : (60 * (r 3 - r 4)).toInt = 60 * ((r 3).toInt - (r 4).toInt) := by rw [fb_mulI (by rw [t_60, ed]; omega) (by rw [t_60, ed]; omega), t_60, ed]
  have em : (1000000 : Int64).toInt = 1000000 := by decide +kernel
  constructor
  · rw [lg_cmp_eq, fa_eq64]
    have f1 : (1000000 * Int32.toInt64 (pminute r 1 - r 1 - 60)).toInt = 1000000 * q := by
      rw [fb_mulL (by rw [em, Int32.toInt_toInt64, e2]; omega) (by rw [em, Int32.toInt_toInt64, e2]; omega), em, Int32.toInt_toInt64, e2]
    have f2 : (1000000 * Int32.toInt64 (pminute r 1 - r 1 - 60) + Int32.toInt64 (pminute r 2)).toInt = 1000000 * q + (pminute r 2).toInt := by
      rw [fb_addL (by rw [f1, Int32.toInt_toInt64]; omega) (by rw [f1, Int32.toInt_toInt64]; omega), f1, Int32.toInt_toInt64]
    rw [fb_subL (by rw [f2, Int32.toInt_toInt64]; omega) (by rw [f2, Int32.toInt_toInt64]; omega), f2, Int32.toInt_toInt64, Int32.toInt_toInt64, e3, h5, h1]
    omega
  · rw [fa_lt, t_1, sz_I (by omega), e2]
    split <;> omega
/-! alarms -/
theorem dstep_other {u v : Int32} {j i : Nat} (h : j ≠ i) {r : Nat → Int32} {k : Nat} (hk : k = 27 + 3 * i ∨ k = 28 + 3 * i ∨ k = 29 + 3 * i) : pdueStep u v j r k = r k := by
  unfold pdueStep
  split
  · split
    · unfold pring; rw [← upd_gen _ _ (by omega), ← upd_gen _ _ (by omega), ← upd_gen _ _ (by omega)]
    · rw [← upd_gen _ _ (by omega)]
  · rfl
theorem dstep_28 (u v : Int32) (i : Nat) (r : Nat → Int32) : pdueStep u v i r (28 + 3 * i) = (if due u v (r (27 + 3 * i)) = 1 then (if pdom r = 0 then 0 else 1) else r (28 + 3 * i)) ∧ pdueStep u v i r (29 + 3 * i) = (if due u v (r (27 + 3 * i)) = 1 then (if pdom r = 0 then r (29 + 3 * i) + 1 else r (29 + 3 * i)) else r (29 + 3 * i)) := by
  unfold pdueStep
  by_cases c1 : due u v (r (27 + 3 * i)) = 1
  · rw [if_pos c1, if_pos c1, if_pos c1]
    by_cases c2 : pdom r = 0
    · rw [if_pos c2, if_pos c2, if_pos c2]
      unfold pring
      constructor
      · rw [← upd_gen _ _ (by omega), ← upd_gen _ _ (by omega)]; exact if_pos rfl
      · rw [← upd_gen _ _ (by omega)]; exact if_pos rfl
    · rw [if_neg c2, if_neg c2, if_neg c2]
      exact ⟨if_pos rfl, (upd_gen _ _ (by omega)).symm⟩
  · rw [if_neg c1, if_neg c1, if_neg c1]; exact ⟨rfl, rfl⟩
theorem dstep_dom (u v : Int32) (j : Nat) (r : Nat → Int32) : pdom (pdueStep u v j r) = pdom r := dom_of (dstep_out (by omega) (by omega)) (dstep_out (by omega) (by omega))
theorem dfrom_28 (u v : Int32) (p : Nat → Int32) (i : Nat) (hi : i < 4) : pdueFrom u v 4 0 p (28 + 3 * i) = (if due u v (p (27 + 3 * i)) = 1 then (if pdom p = 0 then 0 else 1) else p (28 + 3 * i)) ∧ pdueFrom u v 4 0 p (29 + 3 * i) = (if due u v (p (27 + 3 * i)) = 1 then (if pdom p = 0 then p (29 + 3 * i) + 1 else p (29 + 3 * i)) else p (29 + 3 * i)) := by
  have o : ∀ (j : Nat) (q : Nat → Int32) (k : Nat), j ≠ i → (k = 27 + 3 * i ∨ k = 28 + 3 * i ∨ k = 29 + 3 * i) → pdueStep u v j q k = q k := fun j q k h hk => dstep_other h hk
  have main : ∀ (q : Nat → Int32), pdom q = pdom p → q (27 + 3 * i) = p (27 + 3 * i) → q (28 + 3 * i) = p (28 + 3 * i) → q (29 + 3 * i) = p (29 + 3 * i) → pdueStep u v i q (28 + 3 * i) = (if due u v (p (27 + 3 * i)) = 1 then (if pdom p = 0 then 0 else 1) else p (28 + 3 * i)) ∧ pdueStep u v i q (29 + 3 * i) = (if due u v (p (27 + 3 * i)) = 1 then (if pdom p = 0 then p (29 + 3 * i) + 1 else p (29 + 3 * i)) else p (29 + 3 * i)) := by
    intro q hd h27 h28 h29
    have h := dstep_28 u v i q
    rw [hd, h27, h28, h29] at h
    exact h
  rcases (show i = 0 ∨ i = 1 ∨ i = 2 ∨ i = 3 by omega) with q | q | q | q <;> subst q
  · have m := main p rfl rfl rfl rfl
    exact ⟨(o 3 _ _ (by omega) (by omega)).trans ((o 2 _ _ (by omega) (by omega)).trans ((o 1 _ _ (by omega) (by omega)).trans m.1)), (o 3 _ _ (by omega) (by omega)).trans ((o 2 _ _ (by omega) (by omega)).trans ((o 1 _ _ (by omega) (by omega)).trans m.2))⟩
  · have m := main (pdueStep u v 0 p) (dstep_dom _ _ _ _) (o 0 _ _ (by omega) (by omega)) (o 0 _ _ (by omega) (by omega)) (o 0 _ _ (by omega) (by omega))
    exact ⟨(o 3 _ _ (by omega) (by omega)).trans ((o 2 _ _ (by omega) (by omega)).trans m.1), (o 3 _ _ (by omega) (by omega)).trans ((o 2 _ _ (by omega) (by omega)).trans m.2)⟩
  · have m := main (pdueStep u v 1 (pdueStep u v 0 p)) ((dstep_dom _ _ _ _).trans (dstep_dom _ _ _ _)) ((o 1 _ _ (by omega) (by omega)).trans (o 0 _ _ (by omega) (by omega))) ((o 1 _ _ (by omega) (by omega)).trans (o 0 _ _ (by omega) (by omega))) ((o 1 _ _ (by omega) (by omega)).trans (o 0 _ _ (by omega) (by omega)))
    exact ⟨(o 3 _ _ (by omega) (by omega)).trans m.1, (o 3 _ _ (by omega) (by omega)).trans m.2⟩
  · exact main (pdueStep u v 2 (pdueStep u v 1 (pdueStep u v 0 p))) ((dstep_dom _ _ _ _).trans ((dstep_dom _ _ _ _).trans (dstep_dom _ _ _ _))) ((o 2 _ _ (by omega) (by omega)).trans ((o 1 _ _ (by omega) (by omega)).trans (o 0 _ _ (by omega) (by omega)))) ((o 2 _ _ (by omega) (by omega)).trans ((o 1 _ _ (by omega) (by omega)).trans (o 0 _ _ (by omega) (by omega)))) ((o 2 _ _ (by omega) (by omega)).trans ((o 1 _ _ (by omega) (by omega)).trans (o 0 _ _ (by omega) (by omega))))
theorem plose_al (q : Nat → Int32) (i : Nat) (hi : i < 4) : plose q (27 + 3 * i) = q (27 + 3 * i) ∧ plose q (28 + 3 * i) = 0 ∧ plose q (29 + 3 * i) = q (29 + 3 * i) := by
  rcases (show i = 0 ∨ i = 1 ∨ i = 2 ∨ i = 3 by omega) with z | z | z | z <;> subst z <;> exact ⟨rfl, rfl, rfl⟩
theorem mn_27 (r : Nat → Int32) (i : Nat) (hi : i < 4) : pminute r (27 + 3 * i) = r (27 + 3 * i) := by
  have es : pspend r (27 + 3 * i) = r (27 + 3 * i) := pspend_ne r (by omega) (by omega) (by omega)
  have e2 : pm2 r (27 + 3 * i) = r (27 + 3 * i) := by
    rcases pm2_two r with q | q
    · rw [q.1, es]
    · rw [q.1, (plose_al _ i hi).1, es]
  by_cases c : pdom (pm2 r) = 3
  · rw [pminute_dead c, e2]
  · rw [pminute_live c, (pgo_in _).2.2.2.2.2.2.2 i hi, e2]
theorem dueQ_eq (r : Nat → Int32) (i : Nat) (hi : i < 4) : dueQ i r = due (r 1 / 60) (pminute r 1 / 60) (r (27 + 3 * i)) := by
  unfold dueQ
  rw [mn_27 r i hi]
theorem div60_I (x : Int32) (h : 0 ≤ x.toInt) : 0 ≤ (x / 60).toInt ∧ (x / 60).toInt ≤ 40000000 ∧ (x / 60).toInt = x.toInt / 60 := by
  have hx := fb_rng x
  have e : (x / 60).toInt = x.toInt / 60 := by
    rw [Int32.toInt_div, t_60, Int.tdiv_eq_ediv_of_nonneg h, fb_bmod (by omega) (by omega)]
  rw [e]
  omega
theorem mn_noq {r : Nat → Int32} (hd : ¬ deadv r = 0) (h0 : pdom r = 3 → r 1 = 0) (hn : 0 ≤ (r 1).toInt) (i : Nat) : dueQ i r = 0 := by
  unfold dueQ
  rw [mn_1z hd h0]
  unfold due
  have a := div60_I (r 1) hn
  have b : ((0 : Int32) / 60).toInt = 0 := by decide +kernel
  rw [b, show (0 - (r 1 / 60).toInt).toNat = 0 by omega]
  rfl
theorem mn_pg {r : Nat → Int32} (hl : deadv r = 0) (i : Nat) (hi : i < 4) : pminute r (28 + 3 * i) = (if dueQ i r = 1 then (if pdom r = 0 then 0 else 1) else r (28 + 3 * i)) ∧ pminute r (29 + 3 * i) = (if dueQ i r = 1 then (if pdom r = 0 then r (29 + 3 * i) + 1 else r (29 + 3 * i)) else r (29 + 3 * i)) := by
  have c := mn_live hl
  have ek := mn_k hl
  have hp := pm2_live c
  have e1 : pminute r 1 = pclock (pm2 r) 1 := by rw [pminute_live c, (pgo_in _).1]; rfl
  have hc : ∀ k, k ≠ 1 → k ≠ 2 → pclock (pm2 r) k = pm2 r k := fun k h1 h2 => by unfold pclock; rw [← upd_gen _ _ h2, ← upd_gen _ _ h1]
  have hs : ∀ k, 16 ≤ k → pclock (pm2 r) k = r k := fun k hk => by rw [hc k (by omega) (by omega), ek]; exact pspend_ne r (by omega) (by omega) (by omega)
  have hdm : pdom (pclock (pm2 r)) = pdom r := by
    refine (dom_of (hc 6 (by omega) (by omega)) (hc 7 (by omega) (by omega))).trans ?_
    rw [pdom_pm2, mn_dom]
    exact if_pos hl
  have h := dfrom_28 (pm2 r 1 / 60) (pclock (pm2 r) 1 / 60) (pclock (pm2 r)) i hi
  rw [hdm, hs (27 + 3 * i) (by omega), hs (28 + 3 * i) (by omega), hs (29 + 3 * i) (by omega), hp.1, ← e1, ← dueQ_eq r i hi] at h
  rw [pminute_live c]
  unfold pgo
  rw [hp.1, ← e1]
  exact h
theorem dueQ_or (i : Nat) (r : Nat → Int32) : dueQ i r = 0 ∨ dueQ i r = 1 := due_or _ _ _
theorem mn_29 {r : Nat → Int32} (h0 : pdom r = 3 → r 1 = 0) (hn : 0 ≤ (r 1).toInt) (i : Nat) (hi : i < 4) : pminute r (29 + 3 * i) = r (29 + 3 * i) + (if dueQ i r = 0 then 0 else if pdom r = 0 then 1 else 0) := by
  by_cases hl : deadv r = 0
  · rw [(mn_pg hl i hi).2]
    rcases dueQ_or i r with q | q
    · rw [q, if_neg (by decide), if_pos rfl]; exact (Int32.add_zero _).symm
    · rw [q, if_pos rfl, if_neg (show ¬ (1 : Int32) = 0 by decide)]
      split
      · rfl
      · exact (Int32.add_zero _).symm
  · rw [mn_noq hl h0 hn, if_pos rfl, pminute_dead (mn_dead hl)]
    have es : pspend r (29 + 3 * i) = r (29 + 3 * i) := pspend_ne r (by omega) (by omega) (by omega)
    rcases pm2_two r with q | q
    · rw [q.1, es]; exact (Int32.add_zero _).symm
    · rw [q.1, (plose_al _ i hi).2.2, es]; exact (Int32.add_zero _).symm
theorem mn_28 {B M : Int} {P : CPg} (hG : SG B M P) (i : Nat) (hi : i < 4) : bz (pminute P.1 (28 + 3 * i)) = (if deadv P.1 = 0 then (if pdom P.1 = 0 then 0 else if dueQ i P.1 = 0 then bz (P.1 (28 + 3 * i)) else 1) else 0) := by
  have hz : (pdom P.1 = 0 ∨ pdom P.1 = 3) → P.1 (28 + 3 * i) = 0 := by
    intro q
    have h4 : P.1 28 = 0 ∧ P.1 31 = 0 ∧ P.1 34 = 0 ∧ P.1 37 = 0 := by
      rcases q with q | q
      · exact SG_main hG q
      · have := hG.2.2 q
        exact ⟨this.2.2.2.2.2.1, this.2.2.2.2.2.2.1, this.2.2.2.2.2.2.2.1, this.2.2.2.2.2.2.2.2⟩
    rcases (show i = 0 ∨ i = 1 ∨ i = 2 ∨ i = 3 by omega) with z | z | z | z <;> subst z
    · exact h4.1
    · exact h4.2.1
    · exact h4.2.2.1
    · exact h4.2.2.2
  by_cases hl : deadv P.1 = 0
  · rw [if_pos hl, (mn_pg hl i hi).1]
    rcases dueQ_or i P.1 with q | q
    · rw [q, if_neg (by decide), if_pos rfl]
      split
      · rename_i c; rw [hz (Or.inl c)]; rfl
      · rfl
    · rw [q, if_pos rfl, if_neg (show ¬ (1 : Int32) = 0 by decide)]
      split <;> rfl
  · rw [if_neg hl, pminute_dead (mn_dead hl)]
    rcases pm2_two P.1 with q | q
    · rw [q.1, pspend_ne P.1 (by omega) (by omega) (by omega)]
      have h3 : pdom P.1 = 3 := (deadv_y hl).elim id fun z => absurd ((show endsv P.1 = 1 from if_pos z).symm.trans q.2) (by decide)
      rw [hz (Or.inr h3)]; rfl
    · rw [q.1, (plose_al _ i hi).2.1]; rfl
/-! the numbers of minutes between: a loop's sum -/
theorem rem_ne (k : Int32) : ¬ rem32 k 1440 = -99999999 := fun q => by
  have e := (fa_eq _ _).mp q
  have e1 : (-99999999 : Int32).toInt = -99999999 := by decide +kernel
  have e2 : (1440 : Int32).toInt = 1440 := by decide +kernel
  have hk := fb_rng k
  have ed : (k / 1440).toInt = k.toInt.tdiv 1440 := by
    rw [Int32.toInt_div, e2]
    rcases Int.le_total 0 k.toInt with h | h
    · rw [Int.tdiv_eq_ediv_of_nonneg h, fb_bmod (by omega) (by omega)]
    · have z : k.toInt.tdiv 1440 = -((-k.toInt) / 1440) := by rw [← Int.tdiv_eq_ediv_of_nonneg (by omega), Int.neg_tdiv, Int.neg_neg]
      rw [z, fb_bmod (by omega) (by omega)]
  have hr : (k.toInt - k.toInt.tdiv 1440 * 1440 < 1440 ∧ -1440 < k.toInt - k.toInt.tdiv 1440 * 1440) ∧ -2147483648 ≤ k.toInt.tdiv 1440 * 1440 ∧ k.toInt.tdiv 1440 * 1440 < 2147483648 := by
    rcases Int.le_total 0 k.toInt with h | h
    · rw [Int.tdiv_eq_ediv_of_nonneg h]; omega
    · have z : k.toInt.tdiv 1440 = -((-k.toInt) / 1440) := by rw [← Int.tdiv_eq_ediv_of_nonneg (by omega), Int.neg_tdiv, Int.neg_neg]
      rw [z]; omega
  have em : (k / 1440 * 1440).toInt = k.toInt.tdiv 1440 * 1440 := by rw [fb_mulI (by rw [ed, e2]; omega) (by rw [ed, e2]; omega), ed, e2]
  unfold rem32 at e
  rw [fb_subI (by rw [em]; omega) (by rw [em]; omega), em, e1] at e
  omega
theorem dn_y {n : Nat} {k d : Int32} (h : rem32 k 1440 = d) : dueN (n + 1) k d = 1 := if_pos h
theorem dn_n {n : Nat} {k d : Int32} (h : ¬ rem32 k 1440 = d) : dueN (n + 1) k d = dueN n (k + 1) d := if_neg h
theorem or_1 {a : Int32} (h : a = 0 ∨ a = 1) : a ||| 1 = 1 := by rcases h with q | q <;> rw [q] <;> decide
theorem or_0 {a : Int32} (h : a = 0 ∨ a = 1) : a ||| 0 = a := by rcases h with q | q <;> rw [q] <;> decide
theorem and_1 {a : Int32} (h : a = 0 ∨ a = 1) : a &&& 1 = a := by rcases h with q | q <;> rw [q] <;> decide
theorem and_0 {a : Int32} (h : a = 0 ∨ a = 1) : a &&& 0 = 0 := by rcases h with q | q <;> rw [q] <;> decide
/-! the forecast of an alarm -/
theorem dueF_ge (i : Nat) : ∀ (n k : Nat) (r : Nat → Int32), dueF i n k r = -99999999 ∨ ∃ d, k ≤ d ∧ d < k + n ∧ dueF i n k r = nI d := by
  intro n
  induction n with
  | zero => intro k r; exact Or.inl rfl
  | succ n ih =>
    intro k r
    by_cases h : dueQ i r = 0
    · have e : dueF i (n + 1) k r = dueF i n (k + 1) (pminute r) := if_pos h
      rw [e]
      rcases ih (k + 1) (pminute r) with q | ⟨d, h1, h2, h3⟩
      · exact Or.inl q
      · exact Or.inr ⟨d, by omega, by omega, h3⟩
    · exact Or.inr ⟨k, Nat.le_refl _, by omega, if_neg h⟩
/-- the forecast, before minute t -/
def DueI (i t : Nat) (D : Int32) (rr : Nat → Int32) : Prop := (∃ d, 1 ≤ d ∧ d < t ∧ D = nI d) ∨ D = dueF i (3001 - t) t rr
theorem DueI_1 (i : Nat) (r : Nat → Int32) : DueI i 1 (dueF i 3000 1 r) r := Or.inr rfl
theorem DueI_next {i t : Nat} {D : Int32} {rr : Nat → Int32} (h : DueI i t D rr) (h1 : 1 ≤ t) (ht : t < 3000) : DueI i (t + 1) D (pminute rr) := by
  rcases h with ⟨d, a, b, c⟩ | h
  · exact Or.inl ⟨d, a, by omega, c⟩
  · rw [show 3001 - t = (3001 - (t + 1)) + 1 by omega] at h
    by_cases q : dueQ i rr = 0
    · exact Or.inr (h.trans (if_pos q))
    · exact Or.inl ⟨t, h1, by omega, h.trans (if_neg q)⟩
/-- not told before: told for this minute just when it is due now -/
theorem DueI_now {i t : Nat} {D : Int32} {rr : Nat → Int32} (h : DueI i t D rr) (ht : t < 3000) (hn : D = -99999999 ∨ ¬ D < nI t) : (D = nI t → dueQ i rr = 1) ∧ (¬ D = nI t → dueQ i rr = 0) := by
  rcases h with ⟨d, a, b, c⟩ | h
  · rcases hn with q | q
    · rw [c] at q
      exact absurd q (nI_nn (by omega))
    · rw [c, nI_ltI (by omega) (by omega)] at q
      exact absurd b q
  · rw [show 3001 - t = (3001 - (t + 1)) + 1 by omega] at h
    by_cases q : dueQ i rr = 0
    · have e : dueF i (3001 - (t + 1) + 1) t rr = dueF i (3001 - (t + 1)) (t + 1) (pminute rr) := if_pos q
      rw [e] at h
      refine ⟨fun z => ?_, fun _ => q⟩
      rcases dueF_ge i (3001 - (t + 1)) (t + 1) (pminute rr) with g | ⟨d, h1, h2, h3⟩
      · rw [h, g] at z
        exact absurd z.symm (nI_nn (by omega))
      · rw [h, h3, nI_eq (by omega) (by omega)] at z
        omega
    · have e : D = nI t := h.trans (if_neg q)
      exact ⟨fun _ => (dueQ_or i rr).resolve_left q, fun z => absurd e z⟩
theorem mins_succ : ∀ (n : Nat) (r : Nat → Int32), minsR (n + 1) r = pminute (minsR n r) := by
  intro n
  induction n with
  | zero => intro r; rfl
  | succ n ih => intro r; exact ih (pminute r)
