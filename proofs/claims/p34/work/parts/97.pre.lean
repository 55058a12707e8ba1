/-! the diary, the slots, the answers of both sides -/
def HI_ (B : Int) (cn : Nat) (dd : Nat → Int32) (ds : Nat → Int64) (ur : Nat → Nat → Int32) (ux uy : Nat → Int64) (ug : Nat → Nat → Nat → Int32) : Prop :=
  ∀ i, i < cn → Good B (ur i) (ug i) ∧ (∀ k, k < 57 → dd (57 * i + k) = ur i k) ∧ ds (2 * i) = ux i ∧ ds (2 * i + 1) = uy i
theorem HI_up {B B2 : Int} {cn : Nat} {dd : Nat → Int32} {ds : Nat → Int64} {ur : Nat → Nat → Int32} {ux uy : Nat → Int64} {ug : Nat → Nat → Nat → Int32} (h : HI_ B cn dd ds ur ux uy ug) (hB : B ≤ B2) : HI_ B2 cn dd ds ur ux uy ug := fun i hi => ⟨Good_up (h i hi).1 hB, (h i hi).2⟩
theorem HI_z {B : Int} {dd : Nat → Int32} {ds : Nat → Int64} {ur : Nat → Nat → Int32} {ux uy : Nat → Int64} {ug : Nat → Nat → Nat → Int32} : HI_ B 0 dd ds ur ux uy ug := fun i hi => absurd hi (by omega)
theorem updL_at (f : Nat → Int64) {i j : Nat} (v : Int64) (h : j = i) : vp_updL f i v j = v := if_pos h
theorem updL_ne (f : Nat → Int64) {i j : Nat} (v : Int64) (h : j ≠ i) : vp_updL f i v j = f j := if_neg h
theorem HI_note {B : Int} {cn : Nat} {dd : Nat → Int32} {ds : Nat → Int64} {ur : Nat → Nat → Int32} {ux uy : Nat → Int64} {ug : Nat → Nat → Nat → Int32} {r : Nat → Int32} {x y : Int64} {g : Nat → Nat → Int32} (h : HI_ B cn dd ds ur ux uy ug) (hc : cn ≤ 14) (hG : Good B r g) : HI_ B (remC cn) (noteD cn dd r) (noteS cn ds x y) (remF cn ur r) (remF cn ux x) (remF cn uy y) (remF cn ug g) := by
  by_cases h14 : cn < 14
  · have e1 : ∀ {α : Type} (f : Nat → α) (v : α), remF cn f v = va_up f cn v := fun f v => if_pos h14
    rw [remC_y h14, e1, e1, e1, e1, show noteD cn dd r = va_cpy r dd 0 (57 * cn) 57 from if_pos h14, show noteS cn ds x y = vp_updL (vp_updL ds (2 * cn) x) (2 * cn + 1) y from if_pos h14]
    intro i hi
    by_cases e : i = cn
    · rw [up_at ur r e, up_at ug g e, up_at ux x e, up_at uy y e]
      refine ⟨hG, fun k hk => ?_, ?_, ?_⟩
      · unfold va_cpy
        rw [if_pos (by omega)]
        congr 1
        omega
      · rw [updL_ne _ _ (by omega), updL_at _ _ (by omega)]
      · rw [updL_at _ _ (by omega)]
    · rw [up_ne ur r e, up_ne ug g e, up_ne ux x e, up_ne uy y e]
      have ho := h i (by omega)
      refine ⟨ho.1, fun k hk => ?_, ?_, ?_⟩
      · unfold va_cpy
        rw [if_neg (by omega)]
        exact ho.2.1 k hk
      · rw [updL_ne _ _ (by omega), updL_ne _ _ (by omega)]; exact ho.2.2.1
      · rw [updL_ne _ _ (by omega), updL_ne _ _ (by omega)]; exact ho.2.2.2
  · have e1 : ∀ {α : Type} (f : Nat → α) (v : α), remF cn f v = va_up (rot f) 13 v := fun f v => if_neg h14
    rw [remC_n h14, e1, e1, e1, e1, show noteD cn dd r = va_cpy r (shI 57 741 dd) 0 741 57 from if_neg h14, show noteS cn ds x y = vp_updL (vp_updL (shL 2 26 ds) 26 x) 27 y from if_neg h14]
    intro i hi
    by_cases e : i = 13
    · rw [up_at (rot ur) r e, up_at (rot ug) g e, up_at (rot ux) x e, up_at (rot uy) y e]
      refine ⟨hG, fun k hk => ?_, ?_, ?_⟩
      · unfold va_cpy
        rw [if_pos (by omega)]
        rw [show 0 + (57 * i + k - 741) = k by omega]
      · rw [updL_ne _ _ (by omega), updL_at _ _ (by omega)]
      · rw [updL_at _ _ (by omega)]
    · rw [up_ne (rot ur) r e, up_ne (rot ug) g e, up_ne (rot ux) x e, up_ne (rot uy) y e]
      have er : ∀ {α : Type} (f : Nat → α), rot f i = f (i + 1) := fun f => by
        unfold rot
        rw [if_neg e]
      have ho := h (i + 1) (by omega)
      rw [er, er, er, er]
      refine ⟨ho.1, fun k hk => ?_, ?_, ?_⟩
      · unfold va_cpy shI
        rw [if_neg (by omega), if_pos (by omega), ← ho.2.1 k hk]
        congr 1
        omega
      · rw [updL_ne _ _ (by omega), updL_ne _ _ (by omega)]
        unfold shL
        rw [if_pos (by omega), ← ho.2.2.1]
        exact congrArg ds (by omega)
      · rw [updL_ne _ _ (by omega), updL_ne _ _ (by omega)]
        unfold shL
        rw [if_pos (by omega), ← ho.2.2.2]
        exact congrArg ds (by omega)
theorem remC_le {cn : Nat} (h : cn ≤ 14) : remC cn ≤ 14 := by
  by_cases h14 : cn < 14
  · rw [remC_y h14]; omega
  · rw [remC_n h14]; omega
theorem HI_pop {B : Int} {cm : Nat} {dd : Nat → Int32} {ds : Nat → Int64} {ur : Nat → Nat → Int32} {ux uy : Nat → Int64} {ug : Nat → Nat → Nat → Int32} (h : HI_ B (cm + 1) dd ds ur ux uy ug) : HI_ B cm dd ds ur ux uy ug := fun i hi => h i (by omega)
def KI_ (B : Int) (kf kk : Nat → Int32) (ks : Nat → Int64) (vr : Nat → Nat → Int32) (vx vy : Nat → Int64) (vg : Nat → Nat → Nat → Int32) : Prop :=
  ∀ j, j < 2 → ¬ kf j = 0 → Good B (vr j) (vg j) ∧ (∀ k, k < 57 → kk (57 * j + k) = vr j k) ∧ ks (2 * j) = vx j ∧ ks (2 * j + 1) = vy j
theorem KI_up {B B2 : Int} {kf kk : Nat → Int32} {ks : Nat → Int64} {vr : Nat → Nat → Int32} {vx vy : Nat → Int64} {vg : Nat → Nat → Nat → Int32} (h : KI_ B kf kk ks vr vx vy vg) (hB : B ≤ B2) : KI_ B2 kf kk ks vr vx vy vg := fun i hi h0 => ⟨Good_up (h i hi h0).1 hB, (h i hi h0).2⟩
theorem KI_z {B : Int} {kk : Nat → Int32} {ks : Nat → Int64} {vr : Nat → Nat → Int32} {vx vy : Nat → Int64} {vg : Nat → Nat → Nat → Int32} : KI_ B (fun _ => 0) kk ks vr vx vy vg := fun i hi h0 => absurd rfl h0
theorem KI_save {B : Int} {kf kk : Nat → Int32} {ks : Nat → Int64} {vr : Nat → Nat → Int32} {vx vy : Nat → Int64} {vg : Nat → Nat → Nat → Int32} {r : Nat → Int32} {x y : Int64} {g : Nat → Nat → Int32} {J : Nat} (h : KI_ B kf kk ks vr vx vy vg) (hG : Good B r g) : KI_ B (upd kf J 1) (va_cpy r kk 0 (57 * J) 57) (vp_updL (vp_updL ks (2 * J) x) (2 * J + 1) y) (va_up vr J r) (va_up vx J x) (va_up vy J y) (va_up vg J g) := by
  intro i hi h0
  by_cases e : i = J
  · rw [up_at vr r e, up_at vg g e, up_at vx x e, up_at vy y e]
    refine ⟨hG, fun k hk => ?_, ?_, ?_⟩
    · unfold va_cpy
      rw [if_pos (by omega)]
      congr 1
      omega
    · rw [updL_ne _ _ (by omega), updL_at _ _ (by omega)]
    · rw [updL_at _ _ (by omega)]
  · rw [up_ne vr r e, up_ne vg g e, up_ne vx x e, up_ne vy y e]
    rw [← upd_gen kf _ e] at h0
    have ho := h i hi h0
    refine ⟨ho.1, fun k hk => ?_, ?_, ?_⟩
    · unfold va_cpy
      rw [if_neg (by omega)]
      exact ho.2.1 k hk
    · rw [updL_ne _ _ (by omega), updL_ne _ _ (by omega)]; exact ho.2.2.1
    · rw [updL_ne _ _ (by omega), updL_ne _ _ (by omega)]; exact ho.2.2.2
/-- a page that the text makes -/
def Rd (r : Nat → Int32) : Prop := (r 11 = 0 ∧ r 1 = 0 ∧ r 2 = 0 ∧ r 4 = 0 ∧ r 9 = 0) ∧ (-500 ≤ (r 3).toInt ∧ (r 3).toInt ≤ 500) ∧ 0 ≤ (r 7).toInt ∧ (r 29 = 0 ∧ r 32 = 0 ∧ r 35 = 0 ∧ r 38 = 0) ∧ (r 28 = 0 ∧ r 31 = 0 ∧ r 34 = 0 ∧ r 37 = 0) ∧ Bw r
theorem Rd_of {r q : Nat → Int32} (h : Rd r) (hk : ∀ k, k = 11 ∨ k = 1 ∨ k = 2 ∨ k = 4 ∨ k = 9 ∨ k = 3 ∨ k = 7 ∨ k = 29 ∨ k = 32 ∨ k = 35 ∨ k = 38 ∨ k = 28 ∨ k = 31 ∨ k = 34 ∨ k = 37 → q k = r k) (hB : Bw q) : Rd q := by
  unfold Rd
  rw [hk 11 (by omega), hk 1 (by omega), hk 2 (by omega), hk 4 (by omega), hk 9 (by omega), hk 3 (by omega), hk 7 (by omega), hk 29 (by omega), hk 32 (by omega), hk 35 (by omega), hk 38 (by omega), hk 28 (by omega), hk 31 (by omega), hk 34 (by omega), hk 37 (by omega)]
  exact ⟨h.1, h.2.1, h.2.2.1, h.2.2.2.1, h.2.2.2.2.1, hB⟩
theorem Rd_al {r : Nat → Int32} {na : Nat} {v : Int32} (h : Rd r) (ha : na < 4) : Rd (upd (upd r (27 + 3 * na) v) (28 + 3 * na) 0) := by
  refine Rd_of h (fun k hk => ?_) (Bw_upd (Bw_upd h.2.2.2.2.2 (Or.inl (by omega))) (Or.inr (Or.inl rfl)))
  by_cases e : k = 28 + 3 * na
  · have hz := h.2.2.2.2.1
    have h0 : r k = 0 := by
      rcases (show k = 28 ∨ k = 31 ∨ k = 34 ∨ k = 37 by omega) with q | q | q | q <;> rw [q]
      · exact hz.1
      · exact hz.2.1
      · exact hz.2.2.1
      · exact hz.2.2.2
    rw [h0]; exact if_pos e
  · rw [← upd_gen _ _ e, ← upd_gen _ _ (by omega)]
theorem Rd_part {cd : Nat → Int32} {ln pos na np nr : Nat} {r t : Nat → Int32} (h : Rd r) : Rd (partS cd ln pos na np nr r t).2.2.2.2.2.1 := by
  unfold partS
  split
  · unfold alarmS
    split
    · rename_i ha
      split
      · exact h
      · split
        · exact h
        · exact Rd_al h ha
    · exact h
  · split
    · unfold pinS
      split
      · split
        · rename_i hd
          exact Rd_of h (fun k hk => (upd_gen _ _ (by have := hd.2.1; omega)).symm) (Bw_upd h.2.2.2.2.2 (Or.inr (Or.inr rfl)))
        · exact h
      · exact h
    · split
      · unfold regS
        split
        · split
          · rename_i hd
            split
            · exact h
            · exact Rd_of h (fun k hk => (upd_gen _ _ (by have := hd.2.1; omega)).symm) (Bw_upd h.2.2.2.2.2 (Or.inl (by have := hd.2.1; omega)))
          · exact h
        · exact h
      · exact h
theorem Rd_loop {cd : Nat → Int32} {ln : Nat} : ∀ (n : Nat) {pos na np nr : Nat} {r t : Nat → Int32}, Rd r → Rd (rdLoop cd ln n pos na np nr r t).2.2.2.2.2.1 := by
  intro n
  induction n with
  | zero => intro pos na np nr r t h; exact h
  | succ n ih =>
    intro pos na np nr r t h
    show Rd (if pos < ln then _ else _ : Bool × PS).2.2.2.2.2.1
    split
    · split
      · exact ih (Rd_part h)
      · exact Rd_part h
    · exact h
theorem Bw_p0 : Bw p0 := fun k hk => Or.inl (by
  unfold p0
  rcases hk with q | q | q | q | q | q | q | q <;> subst q <;> rfl)
theorem Rd_head {e c : Int32} (he : -500 ≤ e.toInt ∧ e.toInt ≤ 500) (hc : 0 ≤ c.toInt) : Rd (upd (upd p0 3 e) 7 c) :=
  ⟨⟨rfl, rfl, rfl, rfl, rfl⟩, he, hc, ⟨rfl, rfl, rfl, rfl⟩, ⟨rfl, rfl, rfl, rfl⟩, Bw_upd (Bw_upd Bw_p0 (Or.inl (by omega))) (Or.inl (by omega))⟩
theorem Rd_all {cd : Nat → Int32} {ln : Nat} (h : (rdAll cd ln).1 = true) : Rd (rdAll cd ln).2.2.2.2.2.1 := by
  have hh : (headS cd ln p0).1 = true := by
    refine Classical.byContradiction fun q => ?_
    unfold rdAll at h
    rw [if_neg q] at h
    exact absurd h Bool.false_ne_true
  have hR : Rd (headS cd ln p0).2.2 := by
    unfold headS at hh ⊢
    split
    · rename_i c1
      rw [if_pos c1] at hh
      split
      · rename_i c2
        rw [if_pos c2] at hh
        split
        · rename_i c3
          rw [c3] at hh
          exact absurd hh Bool.false_ne_true
        · rename_i e c3
          simp only [c3] at hh
          split
          · rename_i c4
            simp only [c4] at hh
            exact absurd hh Bool.false_ne_true
          · rename_i c c4
            have le := numV_le c3 (Nat.zero_le _)
            have lc := numV_le c4 (Nat.zero_le _)
            have he : (nI e).toInt = e := nI_toInt (by omega)
            have hc : (nI c).toInt = c := nI_toInt (by omega)
            refine Rd_head ?_ (by rw [hc]; omega)
            split
            · rw [fb_negI (by rw [he]; omega), he]; omega
            · rw [he]; omega
      · rename_i c2
        rw [if_neg c2] at hh
        exact absurd hh Bool.false_ne_true
    · rename_i c1
      rw [if_neg c1] at hh
      exact absurd hh Bool.false_ne_true
  unfold rdAll
  rw [if_pos hh]
  exact Rd_loop 60 hR
theorem Good_Rd {B : Int} {r : Nat → Int32} {g : Nat → Nat → Int32} (h : Rd r) (hB : 0 ≤ B) : Good B r g := by
  have e0 : (0 : Int32).toInt = 0 := by decide +kernel
  refine ⟨⟨Rw_z h.1.1, h.2.2.2.2.2, fun _ => h.2.2.2.2.1⟩, ?_, ⟨fun _ => h.1.2.1, ?_, ?_, h.2.1, ?_⟩, h.2.2.1, Gw_z h.1.1⟩
  · unfold R9 ringN
    rw [h.1.2.2.2.2, h.2.2.2.1.1, h.2.2.2.1.2.1, h.2.2.2.1.2.2.1, h.2.2.2.1.2.2.2]
    rfl
  · rw [h.1.2.1, e0]; exact ⟨Int.le_refl 0, hB⟩
  · rw [h.1.2.2.1, e0]; decide
  · rw [h.1.2.2.2.1, e0]; decide
theorem Rd_p0 : Rd p0 := ⟨⟨rfl, rfl, rfl, rfl, rfl⟩, by decide +kernel, by decide +kernel, ⟨rfl, rfl, rfl, rfl⟩, ⟨rfl, rfl, rfl, rfl⟩, Bw_p0⟩
/-! the answers -/
theorem inR_n {v hi : Int32} {n : Nat} (h : inR v 0 hi) (hh : hi.toInt = n) (hn : n < 2 ^ 31) : ∃ k, k ≤ n ∧ v = nI k := by
  have q := inR_nat h (by decide +kernel)
  exact ⟨v.toNatClampNeg, by have := q.2.1; omega, q.1⟩
theorem about_eq {B : Int} {r : Nat → Int32} {g : Nat → Nat → Int32} {w : Int32} (h : Good B r g) (hw : inR w 0 14) : ptell r w = mtell r w := by
  obtain ⟨k, hk, rfl⟩ := inR_n (n := 14) hw (by decide +kernel) (by decide)
  clear hw
  have hb := h.1.2.1
  have b : ∀ k, bk8 k → bz (r k) = r k := fun k hk => bz_of (hb k hk)
  match k, hk with
  | 0, _ => rfl
  | 1, _ => rfl
  | 2, _ => rfl
  | 3, _ => rfl
  | 4, _ => rfl
  | 5, _ => rfl
  | 6, _ => exact b 5 (by omega)
  | 7, _ => rfl
  | 8, _ => rfl
  | 9, _ => rfl
  | 10, _ => rfl
  | 11, _ => rfl
  | 12, _ => exact h.2.1.symm
  | 13, _ => show 0 + bz (r 28) + bz (r 31) + bz (r 34) + bz (r 37) = 0 + r 28 + r 31 + r 34 + r 37; rw [b 28 (by omega), b 31 (by omega), b 34 (by omega), b 37 (by omega)]
  | 14, _ => rfl
theorem row_eq {B : Int} {r : Nat → Int32} {g : Nat → Nat → Int32} {i w : Int32} (h : Good B r g) (hi : inI i (r 11)) (hw : inR w 0 2) : (if w = 0 then g 0 i.toNatClampNeg else if w = 1 then g 1 i.toNatClampNeg else g 2 i.toNatClampNeg) = r (39 + 3 * i.toNatClampNeg + w.toNatClampNeg) := by
  obtain ⟨k, hk, rfl⟩ := inR_n (n := 2) hw (by decide +kernel) (by decide)
  clear hw
  have hs := nI_self hi.1
  have h6 : i < nI 6 := fa_trans hi.2 h.1.1.2
  have hj := nI_ltn hi.1 (by decide) h6
  generalize hJ : i.toNatClampNeg = J at hs hj ⊢
  have hg := h.2.2.2.2 J hj (by rw [← hs]; exact hi.2)
  match k, hk with
  | 0, _ => exact hg.1
  | 1, _ => exact hg.2.1.trans (congrArg r (by show 40 + 3 * J = 39 + 3 * J + 1; omega))
  | 2, _ => exact hg.2.2.trans (congrArg r (by show 41 + 3 * J = 39 + 3 * J + 2; omega))
theorem alarm_eq {B : Int} {r : Nat → Int32} {g : Nat → Nat → Int32} {i w : Int32} (h : Good B r g) (hi : inI i 4) (hw : inR w 0 2) : (if w = 0 then r (27 + 3 * i.toNatClampNeg) else if w = 1 then bz (r (28 + 3 * i.toNatClampNeg)) else r (29 + 3 * i.toNatClampNeg)) = r (27 + 3 * i.toNatClampNeg + w.toNatClampNeg) := by
  obtain ⟨k, hk, rfl⟩ := inR_n (n := 2) hw (by decide +kernel) (by decide)
  clear hw
  have hj := nI_ltn hi.1 (by decide) (show i < nI 4 from hi.2)
  generalize hJ : i.toNatClampNeg = J at hj ⊢
  match k, hk with
  | 0, _ => rfl
  | 1, _ => exact (bz_of (h.1.2.1 (28 + 3 * J) (by omega))).trans (congrArg r (by show 28 + 3 * J = 27 + 3 * J + 1; omega))
  | 2, _ => exact congrArg r (by show 29 + 3 * J = 27 + 3 * J + 2; omega)
theorem guard_eq {B : Int} {q : Nat → Int32} {g : Nat → Nat → Int32} (h : Good B q g) : gpn (bz (q 24)) (bz (q 25)) (bz (q 26)) = q 24 + q 25 + q 26 := by
  have hb := h.1.2.1
  rcases hb 24 (by omega) with a | a <;> rcases hb 25 (by omega) with b | b <;> rcases hb 26 (by omega) with c | c <;> rw [a, b, c] <;> rfl
theorem ahead_eq {B : Int} {r : Nat → Int32} {g : Nat → Nat → Int32} {w : Int32} (h : Good B r g) (hw : inR w 0 5) : ptell r (ahd w.toNatClampNeg) = mahead r w := by
  obtain ⟨k, hk, rfl⟩ := inR_n (n := 5) hw (by decide +kernel) (by decide)
  clear hw
  match k, hk with
  | 0, _ => rfl
  | 1, _ => rfl
  | 2, _ => rfl
  | 3, _ => rfl
  | 4, _ => rfl
  | 5, _ => exact h.2.1.symm
theorem ends_eq (r : Nat → Int32) : (if pdom r = 0 then (-99999999 : Int32) else r 7) = if pdom r = 0 then -99999999 else if pdom r = 3 then 0 else r 7 := by
  by_cases h0 : pdom r = 0
  · rw [if_pos h0, if_pos h0]
  · rw [if_neg h0, if_neg h0]
    by_cases h3 : pdom r = 3
    · rw [if_pos h3]
      have h6 : r 6 < 6 := Classical.byContradiction fun q => h0 (dom0 q)
      exact (dom_3 h6).mp h3
    · rw [if_neg h3]
/-- all that holds at the loop's head, before the call i -/
def BB (i : Nat) : Int := 100000000 + 90000 * i
def LI (i ln cn : Nat) (r : Nat → Int32) (g : Nat → Nat → Int32) (dd : Nat → Int32) (ds : Nat → Int64) (ur : Nat → Nat → Int32) (ux uy : Nat → Int64) (ug : Nat → Nat → Nat → Int32) (kf kk : Nat → Int32) (ks : Nat → Int64) (vr : Nat → Nat → Int32) (vx vy : Nat → Int64) (vg : Nat → Nat → Nat → Int32) : Prop :=
  ln ≤ 60 ∧ cn ≤ 14 ∧ Good (BB i) r g ∧ HI_ (BB i) cn dd ds ur ux uy ug ∧ KI_ (BB i) kf kk ks vr vx vy vg
theorem BB_le (i : Nat) : BB i ≤ BB (i + 1) := by unfold BB; omega
theorem BB_0 (i : Nat) : 0 ≤ BB i := by unfold BB; omega
theorem BB_t (i : Nat) : 99999999 ≤ BB i := by unfold BB; omega
section LIS
variable {i ln cn : Nat} {r : Nat → Int32} {g : Nat → Nat → Int32} {dd : Nat → Int32} {ds : Nat → Int64} {ur : Nat → Nat → Int32} {ux uy : Nat → Int64} {ug : Nat → Nat → Nat → Int32} {kf kk : Nat → Int32} {ks : Nat → Int64} {vr : Nat → Nat → Int32} {vx vy : Nat → Int64} {vg : Nat → Nat → Nat → Int32}
/-- nothing is kept otherwise -/
theorem LI_same (h : LI i ln cn r g dd ds ur ux uy ug kf kk ks vr vx vy vg) {ln' : Nat} (hl : ln' ≤ 60) : LI (i + 1) ln' cn r g dd ds ur ux uy ug kf kk ks vr vx vy vg :=
  ⟨hl, h.2.1, Good_up h.2.2.1 (BB_le i), HI_up h.2.2.2.1 (BB_le i), KI_up h.2.2.2.2 (BB_le i)⟩
/-- an action -/
theorem LI_act (h : LI i ln cn r g dd ds ur ux uy ug kf kk ks vr vx vy vg) {x y : Int64} {r' : Nat → Int32} {g' : Nat → Nat → Int32} (hG : Good (BB (i + 1)) r' g') : LI (i + 1) ln (remC cn) r' g' (noteD cn dd r) (noteS cn ds x y) (remF cn ur r) (remF cn ux x) (remF cn uy y) (remF cn ug g) kf kk ks vr vx vy vg :=
  ⟨h.1, remC_le h.2.1, hG, HI_up (HI_note h.2.2.2.1 h.2.1 h.2.2.1) (BB_le i), KI_up h.2.2.2.2 (BB_le i)⟩
theorem LI_load (h : LI i ln cn r g dd ds ur ux uy ug kf kk ks vr vx vy vg) {r' : Nat → Int32} {g' : Nat → Nat → Int32} (hR : Rd r') : LI (i + 1) ln 0 r' g' dd ds ur ux uy ug (fun _ => 0) kk ks vr vx vy vg :=
  ⟨h.1, Nat.zero_le _, Good_Rd hR (BB_0 _), HI_z, KI_z⟩
theorem LI_save (h : LI i ln cn r g dd ds ur ux uy ug kf kk ks vr vx vy vg) {x y : Int64} {J : Nat} : LI (i + 1) ln cn r g dd ds ur ux uy ug (upd kf J 1) (va_cpy r kk 0 (57 * J) 57) (vp_updL (vp_updL ks (2 * J) x) (2 * J + 1) y) (va_up vr J r) (va_up vx J x) (va_up vy J y) (va_up vg J g) :=
  ⟨h.1, h.2.1, Good_up h.2.2.1 (BB_le i), HI_up h.2.2.2.1 (BB_le i), KI_up (KI_save h.2.2.2.2 h.2.2.1) (BB_le i)⟩
theorem LI_restore (h : LI i ln cn r g dd ds ur ux uy ug kf kk ks vr vx vy vg) {J : Nat} (hJ : J < 2) (hk : ¬ kf J = 0) : LI (i + 1) ln 0 (vr J) (vg J) dd ds ur ux uy ug kf kk ks vr vx vy vg :=
  ⟨h.1, Nat.zero_le _, Good_up (h.2.2.2.2 J hJ hk).1 (BB_le i), HI_z, KI_up h.2.2.2.2 (BB_le i)⟩
theorem LI_undo {cm : Nat} (h : LI i ln (cm + 1) r g dd ds ur ux uy ug kf kk ks vr vx vy vg) : LI (i + 1) ln cm (ur cm) (ug cm) dd ds ur ux uy ug kf kk ks vr vx vy vg :=
  ⟨h.1, by have := h.2.1; omega, Good_up (h.2.2.2.1 cm (by omega)).1 (BB_le i), HI_up (HI_pop h.2.2.2.1) (BB_le i), KI_up h.2.2.2.2 (BB_le i)⟩
end LIS
