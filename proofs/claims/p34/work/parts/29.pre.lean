theorem P_at {D : va_G} {ws ws' : va_W} {H : Heap} (i : Nat) {e1 e2 : Nat × va_E} (he : va_at D vwCl e1 H → va_at D vwCl e2 H) (h1 : ws[i]? = some e1) (h2 : ws' = ws.set i e2) (hP : va_P D vwCl ws H) : va_P D vwCl ws' H := by
  subst h2
  have hi := (List.getElem?_eq_some_iff.mp h1).1
  have e : ws = ws.set i e1 := by
    apply List.ext_getElem?
    intro j
    by_cases hj : j = i
    · subst hj; rw [h1, List.getElem?_set_self hi]
    · rw [List.getElem?_set_ne (Ne.symm hj)]
  rw [e] at hP
  exact P_setc hi hP he
def tw (x y : Int64) : Nat → Int64 := fun k => if k = 0 then x else y
theorem i_mil (x : Int32) : (x / 1000000).toInt = x.toInt.tdiv 1000000 := by
  have h := fb_rng x
  rw [Int32.toInt_div, show (1000000 : Int32).toInt = 1000000 from rfl]
  have h1 : x.toInt.tdiv 1000000 ≤ 2148 ∧ -2148 ≤ x.toInt.tdiv 1000000 := by
    rcases Int.le_total 0 x.toInt with h0 | h0
    · rw [Int.tdiv_eq_ediv_of_nonneg h0]
      omega
    · have e : x.toInt.tdiv 1000000 = -((-x.toInt).tdiv 1000000) := by rw [Int.neg_tdiv, Int.neg_neg]
      rw [e, Int.tdiv_eq_ediv_of_nonneg (by omega)]
      omega
  rw [fb_bmod (by omega) (by omega)]
theorem mil_up {x : Int32} (h : 1000000 ≤ x.toInt) : (x - 1000000) / 1000000 = x / 1000000 - 1 ∧ (x - 1000000).toInt = x.toInt - 1000000 := by
  have hr := fb_rng x
  have e1 : (x - 1000000).toInt = x.toInt - 1000000 := by rw [fb_subI (by rw [show (1000000 : Int32).toInt = 1000000 from rfl]; omega) (by rw [show (1000000 : Int32).toInt = 1000000 from rfl]; omega)]; rfl
  refine ⟨?_, e1⟩
  apply Int32.toInt_inj.mp
  have e2 := i_mil x
  have e3 := i_mil (x - 1000000)
  rw [Int.tdiv_eq_ediv_of_nonneg (by omega)] at e2 e3
  rw [e1] at e3
  rw [e3, fb_subI (by rw [e2, show (1 : Int32).toInt = 1 from rfl]; omega) (by rw [e2, show (1 : Int32).toInt = 1 from rfl]; omega), e2, show (1 : Int32).toInt = 1 from rfl]
  omega
theorem mil_dn {x : Int32} (h : x.toInt ≤ -1000000) : (x + 1000000) / 1000000 = x / 1000000 + 1 ∧ (x + 1000000).toInt = x.toInt + 1000000 := by
  have hr := fb_rng x
  have e1 : (x + 1000000).toInt = x.toInt + 1000000 := by rw [fb_addI (by rw [show (1000000 : Int32).toInt = 1000000 from rfl]; omega) (by rw [show (1000000 : Int32).toInt = 1000000 from rfl]; omega)]; rfl
  refine ⟨?_, e1⟩
  apply Int32.toInt_inj.mp
  have e2 := i_mil x
  have e3 := i_mil (x + 1000000)
  have f2 : x.toInt.tdiv 1000000 = -((-x.toInt).tdiv 1000000) := by rw [Int.neg_tdiv, Int.neg_neg]
  have f3 : (x + 1000000).toInt.tdiv 1000000 = -((-(x + 1000000).toInt).tdiv 1000000) := by rw [Int.neg_tdiv, Int.neg_neg]
  rw [f2, Int.tdiv_eq_ediv_of_nonneg (by omega)] at e2
  rw [f3, Int.tdiv_eq_ediv_of_nonneg (by omega)] at e3
  rw [e1] at e3
  rw [e3, fb_addI (by rw [e2, show (1 : Int32).toInt = 1 from rfl]; omega) (by rw [e2, show (1 : Int32).toInt = 1 from rfl]; omega), e2, show (1 : Int32).toInt = 1 from rfl]
  omega
theorem mil_in {x : Int32} (h1 : -1000000 < x.toInt) (h2 : x.toInt < 1000000) : x / 1000000 = 0 := by
  apply Int32.toInt_inj.mp
  rw [i_mil x, show (0 : Int32).toInt = 0 from rfl]
  rcases Int.le_total 0 x.toInt with h0 | h0
  · rw [Int.tdiv_eq_ediv_of_nonneg h0]; omega
  · rw [show x.toInt.tdiv 1000000 = -((-x.toInt).tdiv 1000000) by rw [Int.neg_tdiv, Int.neg_neg], Int.tdiv_eq_ediv_of_nonneg (by omega)]; omega
theorem upd_four (r : Nat → Int32) (a b c d : Int32) (k : Nat) : upd (upd (upd (upd r 1 a) 2 b) 1 c) 2 d k = upd (upd r 1 c) 2 d k := by
  simp only [upd]
  by_cases h2 : k = 2
  · simp [h2]
  · by_cases h1 : k = 1
    · simp [h1]
    · simp [h1, h2]
def duesFrom (u v : Int32) : Nat → Nat → (Nat → Int32) → Int32 → Int32
  | 0, _, _, acc => acc
  | n + 1, i, r, acc => duesFrom u v n (i + 1) (pdueStep u v i r) (if due u v (r (27 + 3 * i)) = 1 then acc ||| nI (2 ^ i) else acc)
def pdues (r : Nat → Int32) : Int32 := if pdom (pm2 r) = 3 then 0 else duesFrom (pm2 r 1 / 60) (pclock (pm2 r) 1 / 60) 4 0 (pclock (pm2 r)) 0
theorem pspent_7 (r : Nat → Int32) : pspent r 7 = r 7 ∧ pspent r 6 = r 6 := by
  have hd := domv_lt (r 6) (r 7)
  constructor
  · show upd (upd r 0 (r 0 + 1)) (12 + (domv (r 6) (r 7)).toNatClampNeg) _ 7 = _
    simp only [upd]
    rw [if_neg (by omega)]; rfl
  · show upd (upd r 0 (r 0 + 1)) (12 + (domv (r 6) (r 7)).toNatClampNeg) _ 6 = _
    simp only [upd]
    rw [if_neg (by omega)]; rfl
theorem pdom_spent (r : Nat → Int32) : pdom (pspent r) = pdom r := by
  show domv (pspent r 6) (pspent r 7) = domv (r 6) (r 7)
  rw [(pspent_7 r).1, (pspent_7 r).2]
theorem pm2_A {r : Nat → Int32} (h : pdom r = 1 ∨ pdom r = 2) : pcharge (r 7 - 1) (pspent r) = pm2 r := by
  show psettle (pdom (pspent r)) (upd (pspent r) 7 (r 7 - 1)) = psettle (pdom r) (pspend r)
  rw [pdom_spent, show pspend r = upd (pspent r) 7 (r 7 - 1) from if_pos h]
theorem pm2_B {r : Nat → Int32} (h : ¬ (pdom r = 1 ∨ pdom r = 2)) : pspent r = pm2 r := by
  show _ = psettle (pdom r) (pspend r)
  rw [show pspend r = pspent r from if_neg h]
  exact (if_pos (pdom_spent r)).symm
theorem spent_eq (r : Nat → Int32) : upd (upd r 0 (r 0 + 1)) (12 + (pdom r).toNatClampNeg) (upd r 0 (r 0 + 1) (12 + (pdom r).toNatClampNeg) + 1) = pspent r := by
  unfold pspent
  rw [show upd r 0 (r 0 + 1) (12 + (pdom r).toNatClampNeg) = r (12 + (pdom r).toNatClampNeg) from if_neg (by omega)]
theorem dom_12 (r : Nat → Int32) : (12 : Int32) + pdom r = nI (12 + (pdom r).toNatClampNeg) := by
  have h := domv_nI (r 6) (r 7)
  show (12 : Int32) + domv (r 6) (r 7) = _
  rw [h]
  exact nI_add 12 _
theorem pm2_6 (r : Nat → Int32) : pm2 r 6 = r 6 := by
  have h1 : pspend r 6 = r 6 := pspend_ne r (by omega) (by omega) (by omega)
  unfold pm2 psettle
  by_cases h2 : pdom (pspend r) = pdom r
  · rw [if_pos h2]; exact h1
  · rw [if_neg h2]
    by_cases h3 : pdom (pspend r) = 3
    · rw [if_pos h3]; exact h1
    · rw [if_neg h3]
      by_cases h4 : pdom (pspend r) = 0
      · rw [if_pos h4, pring4_out _ (by omega) (by omega)]; exact h1
      · rw [if_neg h4]; exact h1
theorem dom_iff {r r1 : Nat → Int32} (h : r1 6 = r 6) : pdom r = 0 ↔ pdom r1 = 0 := by
  constructor
  · intro q; exact dom0 (by rw [h]; exact dom0' q)
  · intro q; exact dom0 (by rw [← h]; exact dom0' q)
theorem ring_up (C q : Int32) : C + 1 + (q - 1) = C + q := by grind
theorem ring_up2 (R q M : Int32) : (R - M) - (q - 1) * M = R - q * M := by grind
theorem ring_dn (C q : Int32) : C - 1 + (q + 1) = C + q := by grind
theorem ring_dn2 (R q M : Int32) : (R + M) - (q + 1) * M = R - q * M := by grind
theorem ring_z (R M : Int32) : R - 0 * M = R := by grind
theorem neg_mil : (-1000000 : Int32).toInt = -1000000 := by decide +kernel
theorem pos_mil : (1000000 : Int32).toInt = 1000000 := by decide +kernel
theorem mil_a {x : Int32} (h : ¬ x < 1000000) : 1000000 ≤ x.toInt := by
  rw [fa_lt, pos_mil] at h; omega
theorem mil_b {x : Int32} (h : x < 1000000) : x.toInt < 1000000 := by
  rw [fa_lt, pos_mil] at h; exact h
theorem mil_c {x : Int32} (h : ¬ x > -1000000) : x.toInt ≤ -1000000 := by
  have h2 : ¬ (-1000000 : Int32) < x := h
  rw [fa_lt, neg_mil] at h2; omega
theorem mil_d {x : Int32} (h : x > -1000000) : -1000000 < x.toInt := by
  have h2 : (-1000000 : Int32) < x := h
  rw [fa_lt, neg_mil] at h2; exact h2
theorem pclock_of {r : Nat → Int32} {C1 R1 : Int32} (h1 : C1 = r 1 + 60 + (r 2 + (r 3 - r 4) * 60) / 1000000) (h2 : R1 = r 2 + (r 3 - r 4) * 60 - (r 2 + (r 3 - r 4) * 60) / 1000000 * 1000000) : pclock r = upd (upd r 1 C1) 2 R1 := by
  rw [h1, h2]; unfold pclock pdrift; rfl
theorem tw_fold (x y X Y : Int64) (k : Nat) (hk : k < 2) : vp_updL (vp_updL (tw x y) 0 X) 1 Y k = tw X Y k := by
  match k, hk with
  | 0, _ => rfl
  | 1, _ => rfl
