/-! a minute, its bounds -/
theorem pm2_cases (r : Nat → Int32) : (pm2 r = pspend r ∧ pdom (pspend r) = pdom r) ∨ (pm2 r = plose (pspend r) ∧ pdom (pspend r) = 3 ∧ ¬ pdom r = 3) ∨ (pm2 r = pringFrom 4 0 (pspend r) ∧ pdom (pspend r) = 0) ∨ (pm2 r = pspend r ∧ ¬ pdom (pspend r) = 3) := by
  unfold pm2 psettle
  by_cases h1 : pdom (pspend r) = pdom r
  · rw [if_pos h1]; exact Or.inl ⟨rfl, h1⟩
  · rw [if_neg h1]
    by_cases h2 : pdom (pspend r) = 3
    · rw [if_pos h2]; exact Or.inr (Or.inl ⟨rfl, h2, fun q => h1 (h2.trans q.symm)⟩)
    · rw [if_neg h2]
      by_cases h3 : pdom (pspend r) = 0
      · rw [if_pos h3]; exact Or.inr (Or.inr (Or.inl ⟨rfl, h3⟩))
      · rw [if_neg h3]; exact Or.inr (Or.inr (Or.inr ⟨rfl, h2⟩))
theorem plose_1 (r : Nat → Int32) : plose r 1 = 0 ∧ plose r 2 = 0 ∧ plose r 3 = r 3 ∧ plose r 4 = r 4 ∧ plose r 6 = r 6 ∧ plose r 7 = r 7 ∧ plose r 0 = r 0 := ⟨rfl, rfl, rfl, rfl, rfl, rfl, rfl⟩
theorem pspend_in (r : Nat → Int32) : pspend r 1 = r 1 ∧ pspend r 2 = r 2 ∧ pspend r 3 = r 3 ∧ pspend r 4 = r 4 ∧ pspend r 6 = r 6 := ⟨pspend_ne r (by omega) (by omega) (by omega), pspend_ne r (by omega) (by omega) (by omega), pspend_ne r (by omega) (by omega) (by omega), pspend_ne r (by omega) (by omega) (by omega), pspend_ne r (by omega) (by omega) (by omega)⟩
theorem pring_in (r : Nat → Int32) : pringFrom 4 0 r 1 = r 1 ∧ pringFrom 4 0 r 2 = r 2 ∧ pringFrom 4 0 r 3 = r 3 ∧ pringFrom 4 0 r 4 = r 4 ∧ pringFrom 4 0 r 6 = r 6 ∧ pringFrom 4 0 r 7 = r 7 ∧ pringFrom 4 0 r 0 = r 0 := ⟨pring4_out r (by omega) (by omega), pring4_out r (by omega) (by omega), pring4_out r (by omega) (by omega), pring4_out r (by omega) (by omega), pring4_out r (by omega) (by omega), pring4_out r (by omega) (by omega), pring4_out r (by omega) (by omega)⟩
/-- a minute's first half: the domain is not 3 behind it: nothing that the clock tells has changed; 3: C is 0 -/
theorem pm2_live {r : Nat → Int32} (h : ¬ pdom (pm2 r) = 3) : pm2 r 1 = r 1 ∧ pm2 r 2 = r 2 ∧ pm2 r 3 = r 3 ∧ pm2 r 4 = r 4 ∧ pm2 r 7 = pspend r 7 := by
  have hs := pspend_in r
  have hq := pring_in (pspend r)
  rcases pm2_cases r with q | q | q | q
  · rw [q.1]; exact ⟨hs.1, hs.2.1, hs.2.2.1, hs.2.2.2.1, rfl⟩
  · exact absurd (by rw [q.1]; exact q.2.1) h
  · rw [q.1]; exact ⟨hq.1.trans hs.1, hq.2.1.trans hs.2.1, hq.2.2.1.trans hs.2.2.1, hq.2.2.2.1.trans hs.2.2.2.1, hq.2.2.2.2.2.1⟩
  · rw [q.1]; exact ⟨hs.1, hs.2.1, hs.2.2.1, hs.2.2.2.1, rfl⟩
theorem pm2_dead {r : Nat → Int32} (h : pdom (pm2 r) = 3) (h0 : pdom r = 3 → r 1 = 0) : pm2 r 1 = 0 := by
  have hs := pspend_in r
  rcases pm2_cases r with q | q | q | q
  · rw [q.1] at h ⊢; exact hs.1.trans (h0 (q.2.symm.trans h))
  · rw [q.1]; rfl
  · rw [q.1] at h
    have hd : pdom (pringFrom 4 0 (pspend r)) = pdom (pspend r) := by
      have hq := pring_in (pspend r)
      show domv _ _ = domv _ _
      rw [hq.2.2.2.2.1, hq.2.2.2.2.2.1]
    rw [hd, q.2] at h
    exact absurd h (by decide)
  · rw [q.1] at h; exact absurd h q.2
theorem pgo_in (p : Nat → Int32) : pgo p 1 = p 1 + 60 + (p 2 + pdrift p) / 1000000 ∧ pgo p 2 = p 2 + pdrift p - (p 2 + pdrift p) / 1000000 * 1000000 ∧ pgo p 3 = p 3 ∧ pgo p 4 = p 4 ∧ pgo p 6 = p 6 ∧ pgo p 7 = p 7 ∧ pgo p 0 = p 0 ∧ (∀ i, i < 4 → pgo p (27 + 3 * i) = p (27 + 3 * i)) := by
  refine ⟨(dfrom_27 4 0 (by omega)).trans rfl, (dfrom_27 4 0 (by omega)).trans rfl, (dfrom_27 4 0 (by omega)).trans rfl, (dfrom_27 4 0 (by omega)).trans rfl, (dfrom_27 4 0 (by omega)).trans rfl, (dfrom_27 4 0 (by omega)).trans rfl, (dfrom_27 4 0 (by omega)).trans rfl, fun i hi => ?_⟩
  refine (dfrom_27 4 0 (by omega)).trans ?_
  show upd (upd p 1 _) 2 _ (27 + 3 * i) = _
  rw [← upd_gen _ _ (by omega), ← upd_gen _ _ (by omega)]
theorem pdom_pgo (p : Nat → Int32) : pdom (pgo p) = pdom p := by
  have h := pgo_in p
  show domv _ _ = domv _ _
  rw [h.2.2.2.2.1, h.2.2.2.2.2.1]
theorem pminute_live {r : Nat → Int32} (h : ¬ pdom (pm2 r) = 3) : pminute r = pgo (pm2 r) := if_neg h
theorem pminute_dead {r : Nat → Int32} (h : pdom (pm2 r) = 3) : pminute r = pm2 r := if_pos h
/-- numbers of a minute: the drift and the carry -/
theorem i_sub3 {a b : Int32} (ha : -500 ≤ a.toInt ∧ a.toInt ≤ 500) (hb : -500 ≤ b.toInt ∧ b.toInt ≤ 500) : ((a - b) * 60).toInt = (a.toInt - b.toInt) * 60 := by
  have e60 : (60 : Int32).toInt = 60 := by decide +kernel
  rw [Int32.toInt_mul, e60, fb_subI (by omega) (by omega)]
  exact fb_bmod (by omega) (by omega)
theorem i_mulI {x y : Int32} {z : Int} (h : x.toInt * y.toInt = z) (h1 : -2147483648 ≤ z) (h2 : z < 2147483648) : (x * y).toInt = z := by rw [fb_mulI (by omega) (by omega), h]
/-- what a page holds of the clock: in the domain 3 C is 0; C is at most B; the rest under a million; error and correction within 500 -/
def Cw (B : Int) (r : Nat → Int32) : Prop := (pdom r = 3 → r 1 = 0) ∧ (0 ≤ (r 1).toInt ∧ (r 1).toInt ≤ B) ∧ (-1000000 < (r 2).toInt ∧ (r 2).toInt < 1000000) ∧ (-500 ≤ (r 3).toInt ∧ (r 3).toInt ≤ 500) ∧ (-500 ≤ (r 4).toInt ∧ (r 4).toInt ≤ 500)
theorem Cw_up {B B2 : Int} {r : Nat → Int32} (h : Cw B r) (hB : B ≤ B2) : Cw B2 r := ⟨h.1, ⟨h.2.1.1, Int.le_trans h.2.1.2 hB⟩, h.2.2⟩
theorem tdiv_mil {T : Int} (h1 : -2000000 < T) (h2 : T < 2000000) : (-1 ≤ T.tdiv 1000000 ∧ T.tdiv 1000000 ≤ 1) ∧ (-1000000 < T - T.tdiv 1000000 * 1000000 ∧ T - T.tdiv 1000000 * 1000000 < 1000000) ∧ (1000000 ≤ T → T.tdiv 1000000 = 1) ∧ (T ≤ -1000000 → T.tdiv 1000000 = -1) ∧ (-1000000 < T → T < 1000000 → T.tdiv 1000000 = 0) := by
  rcases Int.le_total 0 T with h0 | h0
  · rw [Int.tdiv_eq_ediv_of_nonneg h0]; omega
  · have e : T.tdiv 1000000 = -((-T).tdiv 1000000) := by rw [Int.neg_tdiv, Int.neg_neg]
    rw [e, Int.tdiv_eq_ediv_of_nonneg (by omega)]; omega
/-- the numbers behind a minute of the clock -/
theorem clock_I {p : Nat → Int32} {B : Int} (h : Cw B p) (hB : B ≤ 2000000000) : ∃ T q : Int, T = (p 2).toInt + ((p 3).toInt - (p 4).toInt) * 60 ∧ q = T.tdiv 1000000 ∧ (-1 ≤ q ∧ q ≤ 1) ∧ (pgo p 1).toInt = (p 1).toInt + 60 + q ∧ (pgo p 2).toInt = T - q * 1000000 ∧ ((p 2 + pdrift p) / 1000000).toInt = q ∧ (p 2 + pdrift p).toInt = T := by
  obtain ⟨-, h1, h2, h3, h4⟩ := h
  have hg := pgo_in p
  have eM : (1000000 : Int32).toInt = 1000000 := by decide +kernel
  have e60 : (60 : Int32).toInt = 60 := by decide +kernel
  have hd : (pdrift p).toInt = ((p 3).toInt - (p 4).toInt) * 60 := i_sub3 h3 h4
  have hT : (p 2 + pdrift p).toInt = (p 2).toInt + ((p 3).toInt - (p 4).toInt) * 60 := by rw [fb_addI (by omega) (by omega), hd]
  have ht := tdiv_mil (T := (p 2).toInt + ((p 3).toInt - (p 4).toInt) * 60) (by omega) (by omega)
  have hq : ((p 2 + pdrift p) / 1000000).toInt = ((p 2).toInt + ((p 3).toInt - (p 4).toInt) * 60).tdiv 1000000 := by rw [i_mil, hT]
  refine ⟨_, _, rfl, rfl, ht.1, ?_, ?_, hq, hT⟩
  · have e1 : (p 1 + 60).toInt = (p 1).toInt + 60 := by rw [fb_addI (by omega) (by omega), e60]
    rw [hg.1, fb_addI (by omega) (by omega), e1, hq]
  · have e2 : ((p 2 + pdrift p) / 1000000 * 1000000).toInt = ((p 2).toInt + ((p 3).toInt - (p 4).toInt) * 60).tdiv 1000000 * 1000000 := by rw [fb_mulI (by rw [hq, eM]; omega) (by rw [hq, eM]; omega), hq, eM]
    rw [hg.2.1, fb_subI (by rw [hT, e2]; omega) (by rw [hT, e2]; omega), hT, e2]
theorem Cw_pm2 {r : Nat → Int32} {B : Int} (h : Cw B r) : Cw B (pm2 r) := by
  have hs := pspend_in r
  have e0 : (0 : Int32).toInt = 0 := by decide +kernel
  by_cases hd : pdom (pm2 r) = 3
  · have h1 := pm2_dead hd h.1
    refine ⟨fun _ => h1, by rw [h1, e0]; exact ⟨Int.le_refl 0, Int.le_trans h.2.1.1 h.2.1.2⟩, ?_⟩
    rcases pm2_cases r with q | q | q | q
    · rw [q.1, hs.2.1, hs.2.2.1, hs.2.2.2.1]; exact h.2.2
    · have hp := plose_1 (pspend r)
      rw [q.1, hp.2.1, hp.2.2.1, hp.2.2.2.1, hs.2.2.1, hs.2.2.2.1, e0]; exact ⟨by decide, h.2.2.2⟩
    · have hp := pring_in (pspend r)
      rw [q.1, hp.2.1, hp.2.2.1, hp.2.2.2.1, hs.2.1, hs.2.2.1, hs.2.2.2.1]; exact h.2.2
    · rw [q.1, hs.2.1, hs.2.2.1, hs.2.2.2.1]; exact h.2.2
  · have hl := pm2_live hd
    refine ⟨fun q => absurd q hd, ?_⟩
    rw [hl.1, hl.2.1, hl.2.2.1, hl.2.2.2.1]
    exact h.2
theorem Cw_minute {r : Nat → Int32} {B : Int} (h : Cw B r) (hB : B ≤ 2000000000) : Cw (B + 61) (pminute r) := by
  have hp := Cw_pm2 h
  by_cases hd : pdom (pm2 r) = 3
  · rw [pminute_dead hd]; exact Cw_up hp (by omega)
  · rw [pminute_live hd]
    have hg := pgo_in (pm2 r)
    obtain ⟨T, q, hT, hq, hq1, e1, e2, -, -⟩ := clock_I hp hB
    have ht := tdiv_mil (T := T) (by have := hp.2.2.1; have := hp.2.2.2; omega) (by have := hp.2.2.1; have := hp.2.2.2; omega)
    refine ⟨fun z => absurd ((pdom_pgo _).symm.trans z) hd, ?_, ?_, ?_, ?_⟩
    · rw [e1]; have := hp.2.1; omega
    · rw [e2, hq]; exact ht.2.1
    · rw [hg.2.2.1]; exact hp.2.2.2.1
    · rw [hg.2.2.2.1]; exact hp.2.2.2.2
theorem Cw_mins : ∀ (n : Nat) {r : Nat → Int32} {B : Int}, Cw B r → B + 61 * n ≤ 2000000000 → Cw (B + 61 * n) (minsR n r) := by
  intro n
  induction n with
  | zero => intro r B h _; exact Cw_up h (by omega)
  | succ n ih => intro r B h hB; exact Cw_up (ih (Cw_minute h (by omega)) (by omega)) (by omega)
theorem bit_due {r : Nat → Int32} (h0 : pdom r = 3 → r 1 = 0) (hn : 0 ≤ (r 1).toInt) (i : Nat) (hi : i < 4) : (pdues r >>> (nI i &&& 31)) &&& 1 = dueQ i r := by
  unfold pdues dueQ
  by_cases hd : pdom (pm2 r) = 3
  · rw [if_pos hd, pminute_dead hd, pm2_dead hd h0]
    have e : due (r 1 / 60) (0 / 60) (pm2 r (27 + 3 * i)) = 0 := by
      unfold due
      have e0 : ((0 : Int32) / 60).toInt = 0 := by decide +kernel
      have e1 : 0 ≤ (r 1 / 60).toInt := by
        have e60 : (60 : Int32).toInt = 60 := by decide +kernel
        have hr := fb_rng (r 1)
        rw [Int32.toInt_div, e60, Int.tdiv_eq_ediv_of_nonneg hn, fb_bmod (by omega) (by omega)]
        omega
      rw [e0, show (0 - (r 1 / 60).toInt).toNat = 0 by omega]
      rfl
    rw [e]
    match i, hi with
    | 0, _ => decide +kernel
    | 1, _ => decide +kernel
    | 2, _ => decide +kernel
    | 3, _ => decide +kernel
  · have hg := pgo_in (pm2 r)
    have hl := pm2_live hd
    rw [if_neg hd, pminute_live hd, dues_bit _ _ _ i hi, hg.2.2.2.2.2.2.2 i hi, hl.1, hg.1]
    have e1 : pclock (pm2 r) 1 = pm2 r 1 + 60 + (pm2 r 2 + pdrift (pm2 r)) / 1000000 := rfl
    have e2 : pclock (pm2 r) (27 + 3 * i) = pm2 r (27 + 3 * i) := by
      show upd (upd (pm2 r) 1 _) 2 _ (27 + 3 * i) = _
      rw [← upd_gen _ _ (by omega), ← upd_gen _ _ (by omega)]
    rw [e1, e2, hl.1]
/-! the offset after minutes -/
theorem pm2_0 (r : Nat → Int32) : pm2 r 0 = r 0 + 1 := by
  have h0 := pspend_0 r
  rcases pm2_cases r with q | q | q | q
  · rw [q.1]; exact h0
  · rw [q.1]; exact h0
  · rw [q.1]; exact (pring_in _).2.2.2.2.2.2.trans h0
  · rw [q.1]; exact h0
theorem pminute_0 (r : Nat → Int32) : pminute r 0 = r 0 + 1 := by
  by_cases hd : pdom (pm2 r) = 3
  · rw [pminute_dead hd]; exact pm2_0 r
  · rw [pminute_live hd, (pgo_in _).2.2.2.2.2.2.1]; exact pm2_0 r
theorem pminute_6 (r : Nat → Int32) : pminute r 6 = r 6 := by
  by_cases hd : pdom (pm2 r) = 3
  · rw [pminute_dead hd]; exact pm2_6 r
  · rw [pminute_live hd, (pgo_in _).2.2.2.2.1]; exact pm2_6 r
theorem pm2_7 (r : Nat → Int32) : pm2 r 7 = pspend r 7 := by
  rcases pm2_cases r with q | q | q | q
  · rw [q.1]
  · rw [q.1]; rfl
  · rw [q.1]; exact (pring_in _).2.2.2.2.2.1
  · rw [q.1]
theorem pminute_7 (r : Nat → Int32) : pminute r 7 = if pdom r = 1 ∨ pdom r = 2 then r 7 - 1 else r 7 := by
  have e : pminute r 7 = pspend r 7 := by
    by_cases hd : pdom (pm2 r) = 3
    · rw [pminute_dead hd]; exact pm2_7 r
    · rw [pminute_live hd, (pgo_in _).2.2.2.2.2.1]; exact pm2_7 r
  rw [e]; exact pspend_7 r
theorem pdom_pm2 (r : Nat → Int32) : pdom (pm2 r) = pdom (pminute r) := by
  by_cases hd : pdom (pm2 r) = 3
  · rw [pminute_dead hd]
  · rw [pminute_live hd, pdom_pgo]
theorem dom_not0 {r : Nat → Int32} (h : r 6 < 6) : ¬ pdom r = 0 := fun q => dom0' q h
theorem dom_3 {r : Nat → Int32} (h : r 6 < 6) : pdom r = 3 ↔ r 7 = 0 := by
  show domv _ _ = 3 ↔ _
  unfold domv
  rw [if_pos h]
  by_cases h2 : r 7 = 0
  · rw [if_pos h2]; exact ⟨fun _ => h2, fun _ => rfl⟩
  · rw [if_neg h2]
    refine ⟨fun q => ?_, fun q => absurd q h2⟩
    by_cases h3 : r 6 < 3
    · rw [if_pos h3] at q; exact absurd q (by decide)
    · rw [if_neg h3] at q; exact absurd q (by decide)
theorem dom_12b {r : Nat → Int32} (h : r 6 < 6) (h7 : ¬ r 7 = 0) : pdom r = 1 ∨ pdom r = 2 := by
  rcases domv_or (r 6) (r 7) with q | q | q | q
  · exact absurd q (dom_not0 h)
  · exact Or.inl q
  · exact Or.inr q
  · exact absurd ((dom_3 h).mp q) h7
/-- the battery doesn't last: C is 0 behind it -/
theorem dead_1 : ∀ (n : Nat) {r : Nat → Int32}, r 6 < 6 → 0 ≤ (r 7).toInt → (r 7).toInt ≤ n → (pdom r = 3 → r 1 = 0) → minsR n r 1 = 0 := by
  intro n
  have e0 : (0 : Int32).toInt = 0 := by decide +kernel
  have e1 : (1 : Int32).toInt = 1 := by decide +kernel
  induction n with
  | zero =>
    intro r h6 h7 h7n h3
    exact h3 ((dom_3 h6).mpr (Int32.toInt_inj.mp (by rw [e0]; omega)))
  | succ n ih =>
    intro r h6 h7 h7n h3
    have hn3 : pdom (pminute r) = 3 → pminute r 1 = 0 := by
      intro q
      have q2 : pdom (pm2 r) = 3 := (pdom_pm2 r).trans q
      rw [pminute_dead q2]; exact pm2_dead q2 h3
    have e7 := pminute_7 r
    by_cases hz : r 7 = 0
    · have hd : ¬ (pdom r = 1 ∨ pdom r = 2) := by
        have h33 := (dom_3 h6).mpr hz
        rw [h33]; decide
      rw [if_neg hd] at e7
      exact ih (by rw [pminute_6]; exact h6) (by rw [e7]; exact h7) (by rw [e7, hz, e0]; omega) hn3
    · rw [if_pos (dom_12b h6 hz)] at e7
      have hne : (r 7).toInt ≠ 0 := fun q => hz (Int32.toInt_inj.mp (q.trans e0.symm))
      have e8 : (r 7 - 1).toInt = (r 7).toInt - 1 := by rw [fb_subI (by omega) (by have := fb_rng (r 7); omega), e1]
      exact ih (by rw [pminute_6]; exact h6) (by rw [e7, e8]; omega) (by rw [e7, e8]; omega) hn3
theorem mins_0 : ∀ (n : Nat) (r : Nat → Int32), minsR n r 0 = r 0 + nI n := by
  intro n
  induction n with
  | zero => intro r; exact (Int32.add_zero _).symm
  | succ n ih =>
    intro r
    show minsR n (pminute r) 0 = _
    rw [ih, pminute_0, Int32.add_assoc, show (1 : Int32) + nI n = nI (n + 1) from (nI_add 1 n).trans (congrArg nI (Nat.add_comm 1 n))]
/-- carrying once at the end, minute by minute: the same -/
theorem carry_I {T d q : Int} {n : Nat} (hT1 : -2000000 < T) (hT2 : T < 2000000) (hd : T - d < 1000000 ∧ -1000000 < T - d) (hq : q = T.tdiv 1000000) : (T + n * d).tdiv 1000000 = q + (T - q * 1000000 + n * d).tdiv 1000000 := by
  have ht := tdiv_mil hT1 hT2
  by_cases h1 : 1000000 ≤ T
  · have hd0 : 0 ≤ d := by omega
    have hnd : 0 ≤ (n : Int) * d := Int.mul_nonneg (Int.natCast_nonneg n) hd0
    have e := ht.2.2.1 h1
    rw [hq, e, Int.tdiv_eq_ediv_of_nonneg (by omega), Int.tdiv_eq_ediv_of_nonneg (by omega)]
    generalize (n : Int) * d = w at *
    omega
  · by_cases h2 : T ≤ -1000000
    · have hd0 : 0 ≤ -d := by omega
      have hnd : 0 ≤ (n : Int) * (-d) := Int.mul_nonneg (Int.natCast_nonneg n) hd0
      rw [Int.mul_neg] at hnd
      have e := ht.2.2.2.1 h2
      have f : ∀ z : Int, z.tdiv 1000000 = -((-z).tdiv 1000000) := fun z => by rw [Int.neg_tdiv, Int.neg_neg]
      rw [hq, e, f (T + n * d), f (T - -1 * 1000000 + n * d), Int.tdiv_eq_ediv_of_nonneg (by omega), Int.tdiv_eq_ediv_of_nonneg (by omega)]
      generalize (n : Int) * d = w at *
      omega
    · rw [hq, ht.2.2.2.2 (by omega) (by omega)]
      simp
/-- the battery lasts n minutes -/
def lives : Nat → (Nat → Int32) → Prop
  | 0, _ => True
  | n + 1, r => ¬ pdom (pm2 r) = 3 ∧ lives n (pminute r)
theorem live_off : ∀ (n : Nat) {r : Nat → Int32} {B : Int}, Cw B r → B + 61 * n ≤ 2000000000 → n ≤ 600 → lives n r → poff (minsR n r) = poff r + (r 2 + nI n * (r 3 - r 4) * 60) / 1000000 := by
  intro n
  induction n with
  | zero =>
    intro r B h _ _ _
    have e : r 2 + nI 0 * (r 3 - r 4) * 60 = r 2 := by
      rw [show nI 0 = (0 : Int32) from rfl, Int32.zero_mul, Int32.zero_mul, Int32.add_zero]
    rw [e, mil_in h.2.2.1.1 h.2.2.1.2, Int32.add_zero]
    rfl
  | succ n ih =>
    intro r B h hB hn hl
    have hp := Cw_pm2 h
    have hv := pm2_live hl.1
    have hg := pgo_in (pm2 r)
    have hm := pminute_live hl.1
    obtain ⟨T, q, hT, hq, hq1, e1, e2, eq, eT⟩ := clock_I hp (by omega)
    have hi := ih (Cw_minute h (by omega)) (by omega) (by omega) hl.2
    have e60 : (60 : Int32).toInt = 60 := by decide +kernel
    show poff (minsR n (pminute r)) = _
    rw [hi, hm]
    have hr2 := h.2.2.1
    have hr3 := h.2.2.2.1
    have hr4 := h.2.2.2.2
    have ht := tdiv_mil (T := T) (by rw [hT, hv.2.1, hv.2.2.1, hv.2.2.2.1]; omega) (by rw [hT, hv.2.1, hv.2.2.1, hv.2.2.2.1]; omega)
    have hT' : T = (r 2).toInt + ((r 3).toInt - (r 4).toInt) * 60 := by rw [hT, hv.2.1, hv.2.2.1, hv.2.2.2.1]
    -- the offset itself
    have ho : poff (pgo (pm2 r)) = poff r + (pm2 r 2 + pdrift (pm2 r)) / 1000000 := by
      show pgo (pm2 r) 1 - 60 * pgo (pm2 r) 0 = r 1 - 60 * r 0 + _
      rw [hg.1, hg.2.2.2.2.2.2.1, pm2_0, hv.1]
      generalize (pm2 r 2 + pdrift (pm2 r)) / 1000000 = w
      grind
    rw [ho, Int32.add_assoc]
    refine congrArg (fun z => poff r + z) ?_
    -- the two quotients
    have hd34 : (r 3 - r 4).toInt = (r 3).toInt - (r 4).toInt := fb_subI (by omega) (by omega)
    have prod : ∀ k : Nat, k ≤ 600 → (nI k * (r 3 - r 4) * 60).toInt = (k : Int) * (((r 3).toInt - (r 4).toInt) * 60) := by
      intro k hk
      have hkI : (nI k).toInt = k := nI_toInt (by omega)
      have hb1 : -600000 ≤ (k : Int) * ((r 3).toInt - (r 4).toInt) ∧ (k : Int) * ((r 3).toInt - (r 4).toInt) ≤ 600000 := by
        have a1 : (k : Int) * ((r 3).toInt - (r 4).toInt) ≤ (k : Int) * 1000 := Int.mul_le_mul_of_nonneg_left (by omega) (Int.natCast_nonneg k)
        have a2 : (k : Int) * (-1000) ≤ (k : Int) * ((r 3).toInt - (r 4).toInt) := Int.mul_le_mul_of_nonneg_left (by omega) (Int.natCast_nonneg k)
        omega
      have p1 : (nI k * (r 3 - r 4)).toInt = (k : Int) * ((r 3).toInt - (r 4).toInt) := by
        rw [fb_mulI (by rw [hkI, hd34]; omega) (by rw [hkI, hd34]; omega), hkI, hd34]
      rw [fb_mulI (by rw [p1, e60]; omega) (by rw [p1, e60]; omega), p1, e60, Int.mul_assoc]
    have bnd : ∀ k : Nat, k ≤ 600 → -36000000 ≤ (k : Int) * (((r 3).toInt - (r 4).toInt) * 60) ∧ (k : Int) * (((r 3).toInt - (r 4).toInt) * 60) ≤ 36000000 := by
      intro k hk
      have a1 : (k : Int) * (((r 3).toInt - (r 4).toInt) * 60) ≤ (k : Int) * 60000 := Int.mul_le_mul_of_nonneg_left (by omega) (Int.natCast_nonneg k)
      have a2 : (k : Int) * (-60000) ≤ (k : Int) * (((r 3).toInt - (r 4).toInt) * 60) := Int.mul_le_mul_of_nonneg_left (by omega) (Int.natCast_nonneg k)
      omega
    have b0 := bnd n (by omega)
    have b1 := bnd (n + 1) hn
    have p0 := prod n (by omega)
    have p1 := prod (n + 1) hn
    rw [hg.2.2.1, hg.2.2.2.1, hv.2.2.1, hv.2.2.2.1]
    have hcar := carry_I (T := T) (d := ((r 3).toInt - (r 4).toInt) * 60) (q := q) (n := n) (by omega) (by omega) (by rw [hT']; omega) hq
    have eL : (pgo (pm2 r) 2 + nI n * (r 3 - r 4) * 60).toInt = T - q * 1000000 + n * (((r 3).toInt - (r 4).toInt) * 60) := by
      rw [fb_addI (by rw [e2, p0]; omega) (by rw [e2, p0]; omega), e2, p0]
    have eR : (r 2 + nI (n + 1) * (r 3 - r 4) * 60).toInt = T + n * (((r 3).toInt - (r 4).toInt) * 60) := by
      have e9 : ((n + 1 : Nat) : Int) * (((r 3).toInt - (r 4).toInt) * 60) = n * (((r 3).toInt - (r 4).toInt) * 60) + ((r 3).toInt - (r 4).toInt) * 60 := by
        rw [Int.natCast_succ, Int.add_mul, Int.one_mul]
      rw [fb_addI (by rw [p1]; omega) (by rw [p1]; omega), p1, e9, hT']
      omega
    apply Int32.toInt_inj.mp
    have hd1 := i_mil (pgo (pm2 r) 2 + nI n * (r 3 - r 4) * 60)
    have hd2 := i_mil (r 2 + nI (n + 1) * (r 3 - r 4) * 60)
    rw [eL] at hd1
    rw [eR] at hd2
    have hs1 := fb_rng ((pgo (pm2 r) 2 + nI n * (r 3 - r 4) * 60) / 1000000)
    have hs2 := fb_rng ((r 2 + nI (n + 1) * (r 3 - r 4) * 60) / 1000000)
    rw [fb_addI (by rw [eq, hd1, ← hcar, ← hd2]; omega) (by rw [eq, hd1, ← hcar, ← hd2]; omega), eq, hd1, hd2]
    exact hcar.symm
theorem lives_main : ∀ (n : Nat) {r : Nat → Int32}, pdom r = 0 → lives n r := by
  intro n
  induction n with
  | zero => intro r _; exact trivial
  | succ n ih =>
    intro r h
    have h0 : pdom (pminute r) = 0 := dom0 (by rw [pminute_6]; exact dom0' h)
    exact ⟨by rw [pdom_pm2, h0]; decide, ih h0⟩
theorem lives_bat : ∀ (n : Nat) {r : Nat → Int32}, r 6 < 6 → (n : Int) < (r 7).toInt → lives n r := by
  intro n
  have e0 : (0 : Int32).toInt = 0 := by decide +kernel
  have e1 : (1 : Int32).toInt = 1 := by decide +kernel
  induction n with
  | zero => intro r _ _; exact trivial
  | succ n ih =>
    intro r h6 h7
    have hz : ¬ r 7 = 0 := fun q => by rw [q, e0] at h7; omega
    have e7 := pminute_7 r
    rw [if_pos (dom_12b h6 hz)] at e7
    have e8 : (r 7 - 1).toInt = (r 7).toInt - 1 := by rw [fb_subI (by omega) (by have := fb_rng (r 7); omega), e1]
    have h66 : pminute r 6 < 6 := by rw [pminute_6]; exact h6
    refine ⟨fun q => ?_, ih h66 (by rw [e7, e8]; omega)⟩
    rw [pdom_pm2, dom_3 h66, e7] at q
    rw [q, e0] at e8
    omega
/-! the best correction -/
def vk (k : Nat) : Int32 := if k % 2 = 1 then -(nI ((k + 1) / 2)) else nI (k / 2)
def mB (f : Int32 → Int32) : Nat → Int32
  | 0 => vk 0
  | k + 1 => if f (vk (k + 1)) < f (mB f k) then vk (k + 1) else mB f k
theorem vk_ne (k : Nat) (hk : k ≤ 1000) : ¬ vk k = -99999999 := by
  have e : (-99999999 : Int32).toInt = -99999999 := by decide +kernel
  unfold vk
  split
  · rw [fa_eq, e, fb_negI (by rw [nI_toInt (by omega)]; omega), nI_toInt (by omega)]; omega
  · rw [fa_eq, e, nI_toInt (by omega)]; omega
theorem mB_ne (f : Int32 → Int32) : ∀ k, k ≤ 1000 → ¬ mB f k = -99999999 := by
  intro k
  induction k with
  | zero => intro _; exact vk_ne 0 (by omega)
  | succ k ih =>
    intro hk
    unfold mB
    split
    · exact vk_ne (k + 1) hk
    · exact ih (by omega)
theorem vk_odd {k : Nat} (h : k % 2 = 1) (hk : k ≤ 1000) : (-(nI (k + 1))) / 2 = vk k := by
  unfold vk
  rw [if_pos h]
  apply Int32.toInt_inj.mp
  have e2 : (2 : Int32).toInt = 2 := by decide +kernel
  have a1 : (nI (k + 1)).toInt = ((k + 1 : Nat) : Int) := nI_toInt (by omega)
  have a2 : (nI ((k + 1) / 2)).toInt = (((k + 1) / 2 : Nat) : Int) := nI_toInt (by omega)
  rw [Int32.toInt_div, e2, fb_negI (by rw [a1]; omega), fb_negI (by rw [a2]; omega), a1, a2, Int.neg_tdiv, Int.tdiv_eq_ediv_of_nonneg (by omega), fb_bmod (by omega) (by omega)]
  omega
theorem vk_even {k : Nat} (h : k % 2 = 0) : nI (k / 2) = vk k := by
  unfold vk
  rw [if_neg (by omega)]
/-- how far the offset is from 0 with the correction v after n minutes, as the reference finds it -/
def farv (n : Nat) (r : Nat → Int32) (v : Int32) : Int32 := if poff (minsR n (upd r 4 v)) < 0 then -poff (minsR n (upd r 4 v)) else poff (minsR n (upd r 4 v))
theorem abs_size (x : Int32) : absv x = if x < 0 then -x else x := by
  unfold absv
  by_cases h : x < 0
  · rw [if_neg (fun q : 0 ≤ x => by rw [fa_le] at q; rw [fa_lt] at h; omega), if_pos h, Int32.zero_sub]
  · rw [if_pos (show 0 ≤ x by rw [fa_le]; rw [fa_lt] at h; omega), if_neg h]
theorem best_near {f : Int32 → Int32} {m b o : Int32} {r : Nat → Int32} (h1 : f o = distv m o r) (h2 : f b = distv m b r) : nearv m b o r = if f o < f b then o else b := by
  unfold nearv
  rw [h1, h2]
  by_cases h : distv m o r < distv m b r
  · rw [if_neg (by rw [ge_iff_le, fa_le]; rw [fa_lt] at h; omega), if_pos h]
  · rw [if_pos (by rw [ge_iff_le, fa_le]; rw [fa_lt] at h; omega), if_neg h]
theorem mB_in (f : Int32 → Int32) : ∀ k, ∃ j, j ≤ k ∧ mB f k = vk j := by
  intro k
  induction k with
  | zero => exact ⟨0, Nat.le_refl 0, rfl⟩
  | succ k ih =>
    obtain ⟨j, hj, e⟩ := ih
    unfold mB
    split
    · exact ⟨k + 1, Nat.le_refl _, rfl⟩
    · exact ⟨j, by omega, e⟩
theorem best_same {f : Int32 → Int32} {m : Int32} {r : Nat → Int32} (h : ∀ k, k ≤ 1000 → f (vk k) = distv m (vk k) r) : ∀ (n s : Nat), s + n = 501 → 1 ≤ s → bestL m r n s (mB f (2 * (s - 1))) = mB f 1000 := by
  intro n
  induction n with
  | zero => intro s hs _; show mB f (2 * (s - 1)) = _; rw [show 2 * (s - 1) = 1000 by omega]
  | succ n ih =>
    intro s hs h1
    have hq : ∀ j, j ≤ 1000 → f (mB f j) = distv m (mB f j) r := fun j hj => by
      obtain ⟨i, hi, e⟩ := mB_in f j
      rw [e]; exact h i (by omega)
    obtain ⟨t, rfl⟩ : ∃ t, s = t + 1 := ⟨s - 1, by omega⟩
    have v1 : vk (2 * t + 1) = -nI (t + 1) := by unfold vk; rw [if_pos (by omega), show (2 * t + 1 + 1) / 2 = t + 1 by omega]
    have v2 : vk (2 * t + 1 + 1) = nI (t + 1) := by unfold vk; rw [if_neg (by omega), show (2 * t + 1 + 1) / 2 = t + 1 by omega]
    have n1 : nearv m (mB f (2 * t)) (-nI (t + 1)) r = mB f (2 * t + 1) := by
      rw [← v1, best_near (f := f) (h _ (by omega)) (hq _ (by omega))]; rfl
    have n2 : nearv m (mB f (2 * t + 1)) (nI (t + 1)) r = mB f (2 * t + 1 + 1) := by
      rw [← v2, best_near (f := f) (h _ (by omega)) (hq _ (by omega))]; rfl
    show bestL m r n (t + 1 + 1) (nearv m (nearv m (mB f (2 * (t + 1 - 1))) (-nI (t + 1)) r) (nI (t + 1)) r) = _
    rw [show 2 * (t + 1 - 1) = 2 * t by omega, n1, n2, show 2 * t + 1 + 1 = 2 * (t + 1 + 1 - 1) by omega]
    exact ih (t + 1 + 1) (by omega) (by omega)
theorem mB_flat {f : Int32 → Int32} (c : Int32) (h : ∀ k, k ≤ 1000 → f (vk k) = c) : ∀ k, k ≤ 1000 → mB f k = 0 := by
  intro k
  induction k with
  | zero => intro _; rfl
  | succ k ih =>
    intro hk
    obtain ⟨j, hj, e⟩ := mB_in f k
    unfold mB
    rw [h (k + 1) hk, e, h j (by omega), if_neg (by rw [fa_lt]; omega), ← e]
    exact ih (by omega)
theorem vk_rng {k : Nat} (hk : k ≤ 1000) : -500 ≤ (vk k).toInt ∧ (vk k).toInt ≤ 500 := by
  unfold vk
  split
  · rw [fb_negI (by rw [nI_toInt (by omega)]; omega), nI_toInt (by omega)]; omega
  · rw [nI_toInt (by omega)]; omega
theorem Cw_upd4 {B : Int} {r : Nat → Int32} (h : Cw B r) {v : Int32} (hv : -500 ≤ v.toInt ∧ v.toInt ≤ 500) : Cw B (upd r 4 v) := ⟨h.1, h.2.1, h.2.2.1, h.2.2.2.1, hv⟩
/-- the class's answer is the reference's -/
theorem best_eq {B : Int} {n : Nat} {r : Nat → Int32} (h : Cw B r) (hB : B + 61 * n ≤ 2000000000) (hn : n ≤ 600) (h7 : 0 ≤ (r 7).toInt) : mB (farv n r) 1000 = if deadW (nI n) r = 0 then bestL (nI n) r 500 1 0 else 0 := by
  have hnI : (nI n).toInt = n := nI_toInt (by omega)
  have live : (∀ k, k ≤ 1000 → lives n (upd r 4 (vk k))) → mB (farv n r) 1000 = bestL (nI n) r 500 1 0 := by
    intro hl
    have hf : ∀ k, k ≤ 1000 → farv n r (vk k) = distv (nI n) (vk k) r := by
      intro k hk
      unfold farv distv
      rw [live_off n (Cw_upd4 h (vk_rng hk)) hB hn (hl k hk), abs_size]
      rfl
    exact (best_same hf 500 1 (by omega) (by omega)).symm
  unfold deadW
  by_cases h0 : pdom r = 0
  · rw [if_pos h0, if_pos rfl]
    exact live fun k _ => lives_main n (show pdom (upd r 4 (vk k)) = 0 from h0)
  · have h6 : r 6 < 6 := Classical.byContradiction fun q => h0 (dom0 q)
    rw [if_neg h0]
    by_cases h1 : r 7 > nI n
    · rw [if_pos h1, if_pos rfl]
      refine live fun k _ => lives_bat n (show upd r 4 (vk k) 6 < 6 from h6) (show (n : Int) < (upd r 4 (vk k) 7).toInt from ?_)
      rw [gt_iff_lt, fa_lt, hnI] at h1
      exact h1
    · rw [if_neg h1, if_neg (by decide)]
      have h1' : (r 7).toInt ≤ n := by rw [gt_iff_lt, fa_lt, hnI] at h1; omega
      refine mB_flat (if (0 : Int32) - 60 * (r 0 + nI n) < 0 then -(0 - 60 * (r 0 + nI n)) else 0 - 60 * (r 0 + nI n)) (fun k hk => ?_) 1000 (Nat.le_refl _)
      have e1 : minsR n (upd r 4 (vk k)) 1 = 0 := dead_1 n (show upd r 4 (vk k) 6 < 6 from h6) (show 0 ≤ (upd r 4 (vk k) 7).toInt from h7) (show (upd r 4 (vk k) 7).toInt ≤ n from h1') (show pdom (upd r 4 (vk k)) = 3 → upd r 4 (vk k) 1 = 0 from h.1)
      have e2 : minsR n (upd r 4 (vk k)) 0 = r 0 + nI n := mins_0 n (upd r 4 (vk k))
      have e3 : poff (minsR n (upd r 4 (vk k))) = 0 - 60 * (r 0 + nI n) := by
        show minsR n (upd r 4 (vk k)) 1 - 60 * minsR n (upd r 4 (vk k)) 0 = _
        rw [e1, e2]
      unfold farv
      rw [e3]
theorem hpin_of {r : Nat → Int32} (h : Pw r) {v : Nat} (hv : v < 3) : r (24 + (nI v).toNatClampNeg) = 0 ∨ r (24 + (nI v).toNatClampNeg) = 1 := by
  rw [nI_clamp (by omega)]
  exact h.2.1 (24 + v) (by omega)
