/-! hands at the clock: levels, the battery, tampers, alarms, times -/
abbrev CHr : Type := (Nat → Nat → Int32) × (Nat → Int64) × (Nat → Int64) × (Nat → Nat → Nat → Int32)
theorem ninI_self (x : Int32) : ¬ inI x x := fun q => by
  have := q.2
  rw [fa_lt] at this
  omega
theorem inI_0 {r : Nat → Int32} (hR : Rw r) (c : ¬ r 11 = 0) : inI 0 (r 11) := ⟨by decide, by
  have := Rw_I hR
  have hz : (r 11).toInt ≠ 0 := fun q => c (Int32.toInt_inj.mp (q.trans t_0.symm))
  rw [fa_lt, t_0]
  omega⟩
theorem row_n {r : Nat → Int32} (hR : Rw r) : ∃ w, w ≤ 6 ∧ r 11 = nI w := by
  obtain ⟨w, hw2, hw⟩ := nI_of hR.1
  have h6 := (Rw_I hR).2
  rw [hw, nI_toInt hw2] at h6
  exact ⟨w, by omega, hw⟩
theorem row_same {B M B2 M2 : Int} {P Q : CPg} (hG : SG B M P) (hG2 : SG B2 M2 Q) (h1 : Q.1 = P.1) {i w : Int32} (hi : inI i (P.1 11)) (hw : inR w 0 2) : (if w = 0 then P.2.2.2 0 i.toNatClampNeg else if w = 1 then P.2.2.2 1 i.toNatClampNeg else P.2.2.2 2 i.toNatClampNeg) = (if w = 0 then Q.2.2.2 0 i.toNatClampNeg else if w = 1 then Q.2.2.2 1 i.toNatClampNeg else Q.2.2.2 2 i.toNatClampNeg) := by
  rw [row_eq hG.1 hi hw, row_eq hG2.1 (by rw [h1]; exact hi) hw, h1]
theorem t_m500 : (-500 : Int32).toInt = -500 := by decide +kernel
theorem t_500 : (500 : Int32).toInt = 500 := by decide +kernel
theorem SG_c4 {B M : Int} {P : CPg} (hG : SG B M P) : ¬ P.1 4 < -500 := by
  have := (SG_Cw hG).2.2.2.2
  rw [fa_lt, t_m500]
  omega
theorem settle_k (b : Int32) (q : Nat → Int32) {k : Nat} (hk : k = 0 ∨ k = 3 ∨ k = 4 ∨ k = 6 ∨ k = 7 ∨ k = 8) : psettle b q k = q k := by
  unfold psettle
  split
  · rfl
  · split
    · rcases hk with z | z | z | z | z | z <;> subst z <;> rfl
    · split
      · exact pring4_out q (by omega) (by omega)
      · rfl
theorem lv_dom (v : Int32) (r : Nat → Int32) : pdom (plevel v r) = domv v (r 7) := by
  show domv (psettle _ _ 6) (psettle _ _ 7) = _
  rw [settle_k _ _ (by omega), settle_k _ _ (by omega)]
  rfl
theorem ch_dom (v : Int32) (r : Nat → Int32) : pdom (pcharge v r) = domv (r 6) v := by
  show domv (psettle _ _ 6) (psettle _ _ 7) = _
  rw [settle_k _ _ (by omega), settle_k _ _ (by omega)]
  rfl
theorem lv_main {k : Nat} (hk : k < 4) (r : Nat → Int32) : pdom (plevel (nI (6 + k)) r) = 0 := (lv_dom _ r).trans (dom0 (fun q => by
  rw [fa_lt, nI_toInt (by omega), t_6] at q
  omega))
theorem bz_add (a x : Int32) : (if x = 1 then a + 1 else a) = a + bz x := by
  unfold bz
  split
  · rfl
  · exact (Int32.add_zero _).symm
theorem lv_ring {B M : Int} {P : CPg} (hG : SG B M P) {v : Int32} (hv : pdom (plevel v P.1) = 0) : ringN (plevel v P.1) = ringN P.1 + waitN P.1 := by
  have hd := hv
  rw [lv_dom] at hd
  have hq : pdom (upd P.1 6 v) = 0 := hd
  unfold plevel psettle
  by_cases c : pdom (upd P.1 6 v) = pdom P.1
  · rw [if_pos c]
    have hw := SG_wait hG (by rw [← c, hq]; decide) (by rw [← c, hq]; decide)
    rw [hw]
    exact (Int32.add_zero _).symm
  · rw [if_neg c, if_neg (by rw [hq]; decide), if_pos hq]
    unfold ringN waitN
    have f : ∀ i, i < 4 → pringFrom 4 0 (upd P.1 6 v) (29 + 3 * i) = P.1 (29 + 3 * i) + bz (P.1 (28 + 3 * i)) := fun i hi => by
      rw [pring4_29 _ i hi, ← upd_gen P.1 v (by omega), ← upd_gen P.1 v (by omega)]
      exact bz_add _ _
    have f0 := f 0 (by omega)
    have f1 := f 1 (by omega)
    have f2 := f 2 (by omega)
    have f3 := f 3 (by omega)
    simp only [Nat.mul_zero, Nat.add_zero, Nat.mul_one, Nat.reduceMul, Nat.reduceAdd] at f0 f1 f2 f3
    rw [f0, f1, f2, f3]
    grind
theorem lv_1 {v : Int32} {r : Nat → Int32} (hv : pdom (plevel v r) = 0) : plevel v r 1 = r 1 := by
  have hd := hv
  rw [lv_dom] at hd
  have hq : pdom (upd r 6 v) = 0 := hd
  unfold plevel psettle
  by_cases c : pdom (upd r 6 v) = pdom r
  · rw [if_pos c]; rfl
  · rw [if_neg c, if_neg (by rw [hq]; decide), if_pos hq, pring4_out _ (by omega) (by omega)]
    rfl
theorem lv_wait0 {B M : Int} {P : CPg} (hG : SG B M P) (h : pdom P.1 = 0) : waitN P.1 = 0 := SG_wait hG (by rw [h]; decide) (by rw [h]; decide)
/-! a level below main -/
theorem dv_a {k : Nat} (hk : k < 6) {c : Int32} (h : c = 0) : domv (nI k) c = 3 := by
  unfold domv
  rw [if_pos (show nI k < 6 from (nI_ltI (b := 6) (by omega) (by decide)).mpr hk), if_pos h]
theorem dv_b {k : Nat} (hk : k < 6) {c : Int32} (h : ¬ c = 0) (h2 : ¬ nI k ≤ 2) : domv (nI k) c = 1 := by
  unfold domv
  rw [if_pos (show nI k < 6 from (nI_ltI (b := 6) (by omega) (by decide)).mpr hk), if_neg h, if_neg (fun q => h2 (by rw [fa_lt, t_3] at q; rw [fa_le, t_2]; omega))]
theorem dv_c {k : Nat} (hk : k < 6) {c : Int32} (h : ¬ c = 0) (h2 : nI k ≤ 2) : domv (nI k) c = 2 := by
  unfold domv
  rw [if_pos (show nI k < 6 from (nI_ltI (b := 6) (by omega) (by decide)).mpr hk), if_neg h, if_pos (by rw [fa_le, t_2] at h2; rw [fa_lt, t_3]; omega)]
theorem dv_n0 {k : Nat} (hk : k < 6) (c : Int32) : ¬ domv (nI k) c = 0 := fun q => dom0' q ((nI_ltI (b := 6) (by omega) (by decide)).mpr hk)
def lossv (t d : Int32) : Int32 := if t = 3 then (if d = 3 then 0 else 1) else 0
theorem lv_10 {k : Nat} (hk : k < 6) (r : Nat → Int32) : plevel (nI k) r 10 = r 10 + lossv (domv (nI k) (r 7)) (pdom r) := by
  have hq : pdom (upd r 6 (nI k)) = domv (nI k) (r 7) := rfl
  unfold plevel psettle lossv
  rw [hq]
  by_cases c1 : domv (nI k) (r 7) = pdom r
  · rw [if_pos c1, c1]
    have e : upd r 6 (nI k) 10 = r 10 := rfl
    rw [e]
    split
    · exact (Int32.add_zero _).symm
    · exact (Int32.add_zero _).symm
  · rw [if_neg c1]
    by_cases c2 : domv (nI k) (r 7) = 3
    · rw [if_pos c2, if_pos c2, if_neg (fun q => c1 (c2.trans q.symm))]
      rfl
    · rw [if_neg c2, if_neg c2, if_neg (dv_n0 hk _)]
      exact (Int32.add_zero _).symm
theorem lv_wait {B M : Int} {P : CPg} (hG : SG B M P) {k : Nat} (hk : k < 6) : waitN (plevel (nI k) P.1) = if domv (nI k) (P.1 7) = 3 then 0 else waitN P.1 := by
  have hq : pdom (upd P.1 6 (nI k)) = domv (nI k) (P.1 7) := rfl
  unfold plevel psettle
  rw [hq]
  by_cases c1 : domv (nI k) (P.1 7) = pdom P.1
  · rw [if_pos c1]
    have e : waitN (upd P.1 6 (nI k)) = waitN P.1 := rfl
    rw [e]
    split
    · rename_i c3
      exact SG_wait hG (by rw [← c1, c3]; decide) (by rw [← c1, c3]; decide)
    · rfl
  · rw [if_neg c1]
    by_cases c2 : domv (nI k) (P.1 7) = 3
    · rw [if_pos c2, if_pos c2]; rfl
    · rw [if_neg c2, if_neg c2, if_neg (dv_n0 hk _)]; rfl
theorem bt_0 {k : Nat} (hk : k < 6) (r : Nat → Int32) : pdom (pcharge 0 (plevel (nI k) r)) = 3 := by
  rw [ch_dom]
  have e : plevel (nI k) r 6 = nI k := settle_k _ _ (by omega)
  rw [e]
  exact dv_a hk rfl
theorem bt_10 {k : Nat} (hk : k < 6) (r : Nat → Int32) : pcharge 0 (plevel (nI k) r) 10 = r 10 + (if pdom r = 3 then 0 else 1) := by
  have hd := bt_0 hk r
  have hq : pdom (upd (plevel (nI k) r) 7 0) = 3 := by
    rw [ch_dom] at hd
    exact hd
  have e : pcharge 0 (plevel (nI k) r) 10 = plevel (nI k) r 10 + (if pdom (plevel (nI k) r) = 3 then 0 else 1) := by
    unfold pcharge psettle
    by_cases c : pdom (upd (plevel (nI k) r) 7 0) = pdom (plevel (nI k) r)
    · rw [if_pos c, if_pos (c.symm.trans hq)]; exact (Int32.add_zero _).symm
    · rw [if_neg c, if_pos hq, if_neg (fun z => c (hq.trans z.symm))]; rfl
  rw [e, lv_10 hk, lv_dom]
  unfold lossv
  by_cases c2 : domv (nI k) (r 7) = 3
  · rw [if_pos c2, if_pos c2]
    exact Int32.add_zero _
  · rw [if_neg c2, if_neg c2]
    have c3 : ¬ pdom r = 3 := fun z => c2 (dv_a hk (by
      have h6 : r 6 < 6 := dom_lt6 (by rw [z]; decide)
      exact (dom_3 h6).mp z))
    rw [if_neg c3]
    rw [Int32.add_zero]
theorem bt_50 {k : Nat} (hk : k < 6) (r : Nat → Int32) : pdom (pcharge 50 (pcharge 0 (plevel (nI k) r))) = domv (nI k) 50 := by
  rw [ch_dom]
  have e : pcharge 0 (plevel (nI k) r) 6 = nI k := (settle_k _ _ (by omega)).trans (settle_k _ _ (by omega))
  rw [e]
theorem settle_z1 {b : Int32} {q : Nat → Int32} (h : q 1 = 0) : psettle b q 1 = 0 := by
  unfold psettle
  split
  · exact h
  · split
    · rfl
    · split
      · rw [pring4_out q (by omega) (by omega)]; exact h
      · exact h
theorem bt_1 {q : Nat → Int32} (h : q 1 = 0) : pcharge 50 q 1 = 0 := settle_z1 (q := upd q 7 50) h
/-! a tamper -/
def toldv (r : Nat → Int32) (k : Nat) : Int32 := if r (24 + k) = 1 then (if pdom r = 3 then 0 else 1) else 0
theorem bz_y {x : Int32} (h : bz x = 1) : x = 1 := by
  unfold bz at h
  split at h
  · rename_i c; exact c
  · exact absurd h (by decide)
theorem bz_n {x : Int32} (h : ¬ bz x = 1) : ¬ x = 1 := fun q => h (by rw [q]; rfl)
theorem tm_two (r : Nat → Int32) (g : Nat → Nat → Int32) {k : Nat} (hk : k < 3) : (toldv r k = 0 ∧ ptamper (nI k) r = r ∧ ptamG (nI k) r g = g) ∨ (toldv r k = 1 ∧ ptamper (nI k) r = ptamR (nI k) r ∧ ptamG (nI k) r g = fun j => if j = 0 then rowUp (r 11) (g 0) (nI k) else if j = 1 then rowUp (r 11) (g 1) (r 1) else rowUp (r 11) (g 2) (pdom r)) := by
  unfold toldv ptamper ptamG
  rw [nI_clamp (by omega)]
  by_cases c1 : r (24 + k) = 1
  · rw [if_pos c1, if_pos c1, if_pos c1]
    by_cases c2 : pdom r = 3
    · rw [if_pos c2, if_pos c2, if_pos c2]; exact Or.inl ⟨rfl, rfl, rfl⟩
    · rw [if_neg c2, if_neg c2, if_neg c2]; exact Or.inr ⟨rfl, rfl, rfl⟩
  · rw [if_neg c1, if_neg c1, if_neg c1]; exact Or.inl ⟨rfl, rfl, rfl⟩
theorem tm_11 (r : Nat → Int32) {k : Nat} (hk : k < 3) : ptamper (nI k) r 11 = if toldv r k = 0 then r 11 else if r 11 < 6 then r 11 + 1 else r 11 := by
  rcases tm_two r (fun _ _ => 0) hk with q | q
  · rw [q.1, q.2.1, if_pos rfl]
  · rw [q.1, q.2.1, if_neg (by decide), ptamR_11]
theorem tm_8 (r : Nat → Int32) {k : Nat} (hk : k < 3) : ptamper (nI k) r 8 = r 8 + toldv r k := by
  rcases tm_two r (fun _ _ => 0) hk with q | q
  · rw [q.1, q.2.1]; exact (Int32.add_zero _).symm
  · rw [q.1, q.2.1, ptamR_8]
theorem tm_16 {r : Nat → Int32} (hR : Rw r) {k j : Nat} (hk : k < 3) (hj : j < 8) : ptamper (nI k) r (16 + j) = if toldv r k = 0 then r (16 + j) else 0 := by
  rcases tm_two r (fun _ _ => 0) hk with q | q
  · rw [q.1, q.2.1, if_pos rfl]
  · rw [q.1, q.2.1, if_neg (by decide), ptamR_ne _ hR.1 (by omega) (by omega) (by omega), perase_in r (by omega) (by omega)]
theorem tm_row {r : Nat → Int32} (hR : Rw r) (g : Nat → Nat → Int32) {k : Nat} (hk : k < 3) (ht : ¬ toldv r k = 0) (h6 : ¬ r 11 = 6) : inI (r 11) (ptamper (nI k) r 11) ∧ ptamG (nI k) r g 0 (r 11).toNatClampNeg = nI k ∧ ptamG (nI k) r g 1 (r 11).toNatClampNeg = r 1 ∧ ptamG (nI k) r g 2 (r 11).toNatClampNeg = pdom r := by
  have hI := Rw_I hR
  have c3 : r 11 < 6 := by
    rw [fa_lt, t_6]
    have : (r 11).toInt ≠ 6 := fun q => h6 (Int32.toInt_inj.mp (q.trans t_6.symm))
    omega
  rcases tm_two r g hk with q | q
  · exact absurd q.1 ht
  · have e11 : (r 11 + 1).toInt = (r 11).toInt + 1 := by rw [fb_addI (by rw [t_1]; omega) (by rw [t_1]; omega), t_1]
    refine ⟨?_, ?_, ?_, ?_⟩
    · rw [q.2.1, ptamR_11, if_pos c3]
      refine ⟨hR.1, ?_⟩
      rw [fa_lt, e11]
      omega
    · rw [q.2.2]
      show rowUp (r 11) (g 0) (nI k) _ = _
      rw [rowUp_at c3]; exact if_pos rfl
    · rw [q.2.2]
      show rowUp (r 11) (g 1) (r 1) _ = _
      rw [rowUp_at c3]; exact if_pos rfl
    · rw [q.2.2]
      show rowUp (r 11) (g 2) (pdom r) _ = _
      rw [rowUp_at c3]; exact if_pos rfl
/-! an alarm that is set and unset -/
theorem sa_27 (i : Nat) (v : Int32) (r : Nat → Int32) : psetAl i v r (27 + 3 * i) = if v = 1440 then -99999999 else v := by
  unfold psetAl
  rw [← upd_gen _ _ (by omega)]
  exact if_pos rfl
theorem sa_27n {i mi : Nat} (h : mi < 1440) (r : Nat → Int32) : psetAl i (nI mi) r (27 + 3 * i) = nI mi := (sa_27 i _ r).trans (if_neg (fun q => by
  have := (nI_eq (b := 1440) (by omega) (by decide)).mp q
  omega))
theorem sa_28 (i : Nat) (v : Int32) (r : Nat → Int32) : bz (psetAl i v r (28 + 3 * i)) = 0 := by
  unfold psetAl
  rw [show upd (upd r (27 + 3 * i) _) (28 + 3 * i) 0 (28 + 3 * i) = (0 : Int32) from if_pos rfl]
  rfl
theorem dueN_none : ∀ (n : Nat) (k : Int32), dueN n k (-99999999) = 0 := by
  intro n
  induction n with
  | zero => intro k; rfl
  | succ n ih => intro k; exact (dn_n (rem_ne k)).trans (ih _)
theorem due_none (i : Nat) (hi : i < 4) : ∀ (n k : Nat) (r : Nat → Int32), r (27 + 3 * i) = -99999999 → dueF i n k r = -99999999 := by
  intro n
  induction n with
  | zero => intro k r _; rfl
  | succ n ih =>
    intro k r h
    have hq : dueQ i r = 0 := by
      rw [dueQ_eq r i hi, h]
      exact dueN_none _ _
    have e : dueF i (n + 1) k r = dueF i n (k + 1) (pminute r) := if_pos hq
    rw [e]
    exact ih (k + 1) _ ((mn_27 r i hi).trans h)
/-! the best correction -/
theorem mB_first (f : Int32 → Int32) : ∀ k, ∃ b, b ≤ k ∧ mB f k = vk b ∧ (∀ j, j ≤ k → ¬ f (vk j) < f (vk b)) ∧ ∀ j, j < b → f (vk b) < f (vk j) := by
  intro k
  induction k with
  | zero => exact ⟨0, Nat.le_refl 0, rfl, fun j hj => by rw [show j = 0 by omega, fa_lt]; omega, fun j hj => absurd hj (by omega)⟩
  | succ k ih =>
    obtain ⟨b, hb, e, h1, h2⟩ := ih
    by_cases c : f (vk (k + 1)) < f (mB f k)
    · refine ⟨k + 1, Nat.le_refl _, if_pos c, fun j hj => ?_, fun j hj => ?_⟩
      · rcases Nat.lt_or_ge j (k + 1) with q | q
        · have := h1 j (by omega)
          rw [e] at c
          rw [fa_lt] at this c ⊢
          omega
        · rw [show j = k + 1 by omega, fa_lt]; omega
      · have := h1 j (by omega)
        rw [e] at c
        rw [fa_lt] at this c ⊢
        omega
    · refine ⟨b, by omega, (if_neg c).trans e, fun j hj => ?_, h2⟩
      rcases Nat.lt_or_ge j (k + 1) with q | q
      · exact h1 j (by omega)
      · rw [e] at c
        rw [show j = k + 1 by omega]; exact c
theorem vk_sz {j : Nat} (hj : j ≤ 1000) : (if vk j < 0 then -vk j else vk j) = nI ((j + 1) / 2) := by
  unfold vk
  by_cases h : j % 2 = 1
  · rw [if_pos h]
    have hn : (-(nI ((j + 1) / 2))).toInt = -(((j + 1) / 2 : Nat) : Int) := by rw [fb_negI (by rw [nI_toInt (by omega)]; omega), nI_toInt (by omega)]
    rw [if_pos (by rw [fa_lt, hn, t_0]; omega), Int32.neg_neg]
  · rw [if_neg h, if_neg (nI_pos (by omega))]
    exact congrArg nI (by omega)
theorem vk_of {v : Int32} (h : inR v (-500) 500) : ∃ j, j ≤ 1000 ∧ v = vk j := by
  have q := inR_c.mp h
  rw [t_m500, t_500] at q
  rcases Classical.em (v.toInt < 0) with z | z
  · obtain ⟨n, hn⟩ : ∃ n : Nat, (n : Int) = -v.toInt := ⟨(-v.toInt).toNat, by omega⟩
    refine ⟨2 * n - 1, by omega, ?_⟩
    unfold vk
    rw [if_pos (by omega), show (2 * n - 1 + 1) / 2 = n by omega, fa_eq, fb_negI (by rw [nI_toInt (by omega)]; omega), nI_toInt (by omega)]
    omega
  · obtain ⟨n, hn⟩ : ∃ n : Nat, (n : Int) = v.toInt := ⟨v.toInt.toNat, by omega⟩
    refine ⟨2 * n, by omega, ?_⟩
    unfold vk
    rw [if_neg (by omega), show 2 * n / 2 = n by omega, fa_eq, nI_toInt (by omega)]
    omega
theorem mB_rng (f : Int32 → Int32) : inR (mB f 1000) (-500) 500 := by
  obtain ⟨j, hj, e⟩ := mB_in f 1000
  rw [e]
  exact inR_c.mpr (by rw [t_m500, t_500]; exact vk_rng hj)
theorem mB_sz (f : Int32 → Int32) : ¬ (500 : Int32) < (if mB f 1000 < 0 then -mB f 1000 else mB f 1000) := by
  obtain ⟨j, hj, e⟩ := mB_in f 1000
  rw [e, vk_sz hj, fa_lt, t_500, nI_toInt (by omega)]
  omega
theorem mB_le {f : Int32 → Int32} {v : Int32} (h : inR v (-500) 500) : ¬ f v < f (mB f 1000) := by
  obtain ⟨j, hj, rfl⟩ := vk_of h
  obtain ⟨b, hb, e, h1, h2⟩ := mB_first f 1000
  rw [e]
  exact h1 j hj
theorem mB_tie {f : Int32 → Int32} {v : Int32} (h : inR v (-500) 500) (c1 : ¬ f (mB f 1000) < f v) (c2 : ¬ (if mB f 1000 < 0 then -mB f 1000 else mB f 1000) < (if v < 0 then -v else v)) : (if mB f 1000 < 0 then -mB f 1000 else mB f 1000) = (if v < 0 then -v else v) ∧ ¬ v < mB f 1000 := by
  obtain ⟨j, hj, rfl⟩ := vk_of h
  obtain ⟨b, hb, e, h1, h2⟩ := mB_first f 1000
  rw [e] at c1 c2 ⊢
  have hbj : b ≤ j := Nat.le_of_not_lt fun q => c1 (h2 j q)
  rw [vk_sz hj, vk_sz hb] at c2 ⊢
  rw [nI_ltI (by omega) (by omega)] at c2
  have es : (b + 1) / 2 = (j + 1) / 2 := by omega
  refine ⟨congrArg nI es, ?_⟩
  by_cases hb2 : b = j
  · rw [hb2, fa_lt]; omega
  · have ho : b % 2 = 1 := by omega
    have hj2 : ¬ j % 2 = 1 := by omega
    unfold vk
    rw [if_pos ho, if_neg hj2, fa_lt, fb_negI (by rw [nI_toInt (by omega)]; omega), nI_toInt (by omega), nI_toInt (by omega)]
    omega
theorem inR_500 {k : Nat} (h : k ≤ 1000) : inR (nI k - 500) (-500) 500 := inR_c.mpr (by
  rw [t_m500, t_500, fb_subI (by rw [t_500, nI_toInt (by omega)]; omega) (by rw [t_500, nI_toInt (by omega)]; omega), t_500, nI_toInt (by omega)]
  omega)
