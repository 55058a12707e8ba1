/-! the reference's commands, simulations and forecasts -/
theorem inv_nat {n : Nat} {a b : Int64} (hn : n < 2 ^ 31) (lo hi : Int) (ha : a.toInt = lo) (hb : b.toInt = hi) : ¬ inv (Int32.toInt64 (nI n)) a b = 0 ↔ lo ≤ (n : Int) ∧ (n : Int) ≤ hi := by
  rw [inv_c, ha, hb, Int32.toInt_toInt64, nI_toInt hn]
theorem inv_natn {n : Nat} {a b : Int64} (hn : n < 2 ^ 31) (lo hi : Int) (ha : a.toInt = lo) (hb : b.toInt = hi) (h : inv (Int32.toInt64 (nI n)) a b = 0) : ¬ (lo ≤ (n : Int) ∧ (n : Int) ≤ hi) := fun q => (inv_nat hn lo hi ha hb).mpr q h
theorem sg_ok {a b : Nat} (hb : b < 1000) : (¬ sgnv a b < -500 ∧ ¬ sgnv a b > 500) ↔ b ≤ 500 := by
  have e5 : (500 : Int32).toInt = 500 := by decide +kernel
  have en : (-500 : Int32).toInt = -500 := by decide +kernel
  have hbI : (nI b).toInt = b := nI_toInt (by omega)
  unfold sgnv
  by_cases h : a = 0
  · rw [if_pos h, gt_iff_lt, fa_lt, fa_lt, en, e5, hbI]; omega
  · have hneg : (-nI b).toInt = -(b : Int) := by
      rw [Int32.toInt_neg, hbI]
      exact fb_bmod (by omega) (by omega)
    rw [if_neg h, gt_iff_lt, fa_lt, fa_lt, en, e5, hneg]; omega
theorem cmd1 {gg : Nat} {r : Nat → Int32} (h : gg / 10000 = 1) : cmdOk gg r = (if 1 ≤ gg % 10000 ∧ gg % 10000 ≤ 1440 then 1 else 0) ∧ cmdR gg r = (minsR (pcN (gg % 10000)) r) ∧ cmdN gg = pcN (gg % 10000) := ⟨if_pos h, if_pos h, if_pos h⟩
theorem cmd2 {gg : Nat} {r : Nat → Int32} (h : gg / 10000 = 2) : cmdOk gg r = (if gg / 10 % 1000 = 0 then 1 else 0) ∧ cmdR gg r = (if gg / 10 % 1000 = 0 then plevel (nI (gg % 10)) r else r) ∧ cmdN gg = 0 := ⟨(if_neg (by omega)).trans (if_pos h), (if_neg (by omega)).trans (if_pos h), if_neg (by omega)⟩
theorem cmd3 {gg : Nat} {r : Nat → Int32} (h : gg / 10000 = 3) : cmdOk gg r = (if gg / 1000 % 10 ≤ 1 ∧ corOk (sgnv (gg / 1000 % 10) (gg % 1000)) r then 1 else 0) ∧ cmdR gg r = (if gg / 1000 % 10 ≤ 1 then (if corOk (sgnv (gg / 1000 % 10) (gg % 1000)) r then upd r 4 (sgnv (gg / 1000 % 10) (gg % 1000)) else r) else r) ∧ cmdN gg = 0 := ⟨(if_neg (by omega)).trans ((if_neg (by omega)).trans (if_pos h)), (if_neg (by omega)).trans ((if_neg (by omega)).trans (if_pos h)), if_neg (by omega)⟩
theorem cmd4 {gg : Nat} {r : Nat → Int32} (h : gg / 10000 = 4) : cmdOk gg r = (if wrOk (gg / 1000 % 10) (gg % 1000) r then 1 else 0) ∧ cmdR gg r = (if wrOk (gg / 1000 % 10) (gg % 1000) r then upd r (16 + gg / 1000 % 10) (nI (gg % 1000)) else r) ∧ cmdN gg = 0 := ⟨(if_neg (by omega)).trans ((if_neg (by omega)).trans ((if_neg (by omega)).trans (if_pos h))), (if_neg (by omega)).trans ((if_neg (by omega)).trans ((if_neg (by omega)).trans (if_pos h))), if_neg (by omega)⟩
theorem cmd5 {gg : Nat} {r : Nat → Int32} (h : gg / 10000 = 5) : cmdOk gg r = (if gg / 10 % 1000 = 0 ∧ gg % 10 < 3 then 1 else 0) ∧ cmdR gg r = (if gg / 10 % 1000 = 0 then (if gg % 10 < 3 then ptamper (nI (gg % 10)) r else r) else r) ∧ cmdN gg = 0 := ⟨(if_neg (by omega)).trans ((if_neg (by omega)).trans ((if_neg (by omega)).trans ((if_neg (by omega)).trans (if_pos h)))), (if_neg (by omega)).trans ((if_neg (by omega)).trans ((if_neg (by omega)).trans ((if_neg (by omega)).trans (if_pos h)))), if_neg (by omega)⟩
theorem cmd6 {gg : Nat} {r : Nat → Int32} (h : gg / 10000 = 6) : cmdOk gg r = (if gg % 1000 = 0 ∧ gg / 1000 % 10 < 4 then 1 else 0) ∧ cmdR gg r = (if gg % 1000 = 0 then (if gg / 1000 % 10 < 4 then psetAl (gg / 1000 % 10) 1440 r else r) else r) ∧ cmdN gg = 0 := ⟨(if_neg (by omega)).trans ((if_neg (by omega)).trans ((if_neg (by omega)).trans ((if_neg (by omega)).trans ((if_neg (by omega)).trans (if_pos h))))), (if_neg (by omega)).trans ((if_neg (by omega)).trans ((if_neg (by omega)).trans ((if_neg (by omega)).trans ((if_neg (by omega)).trans (if_pos h))))), if_neg (by omega)⟩
theorem cmd7 {gg : Nat} {r : Nat → Int32} (h : gg / 10000 = 7) : cmdOk gg r = (if gg / 10 % 1000 = 0 ∧ pdom r = nI (gg % 10) then 1 else 0) ∧ cmdR gg r = (r) ∧ cmdN gg = 0 := ⟨(if_neg (by omega)).trans ((if_neg (by omega)).trans ((if_neg (by omega)).trans ((if_neg (by omega)).trans ((if_neg (by omega)).trans ((if_neg (by omega)).trans (if_pos h)))))), (if_neg (by omega)).trans ((if_neg (by omega)).trans ((if_neg (by omega)).trans ((if_neg (by omega)).trans ((if_neg (by omega)).trans (if_neg (by omega)))))), if_neg (by omega)⟩
theorem cmd8 {gg : Nat} {r : Nat → Int32} (h : gg / 10000 = 8) : cmdOk gg r = (if gg / 1000 % 10 < 8 ∧ r (16 + gg / 1000 % 10) = nI (gg % 1000) then 1 else 0) ∧ cmdR gg r = (r) ∧ cmdN gg = 0 := ⟨(if_neg (by omega)).trans ((if_neg (by omega)).trans ((if_neg (by omega)).trans ((if_neg (by omega)).trans ((if_neg (by omega)).trans ((if_neg (by omega)).trans ((if_neg (by omega)).trans (if_pos h))))))), (if_neg (by omega)).trans ((if_neg (by omega)).trans ((if_neg (by omega)).trans ((if_neg (by omega)).trans ((if_neg (by omega)).trans (if_neg (by omega)))))), if_neg (by omega)⟩
theorem cmd9 {gg : Nat} {r : Nat → Int32} (h : gg / 10000 = 9) : cmdOk gg r = (if gg / 1000 % 10 ≤ 1 ∧ poff r ≤ sgnv (gg / 1000 % 10) (gg % 1000) then 1 else 0) ∧ cmdR gg r = (r) ∧ cmdN gg = 0 := ⟨(if_neg (by omega)).trans ((if_neg (by omega)).trans ((if_neg (by omega)).trans ((if_neg (by omega)).trans ((if_neg (by omega)).trans ((if_neg (by omega)).trans ((if_neg (by omega)).trans ((if_neg (by omega)).trans (if_pos h)))))))), (if_neg (by omega)).trans ((if_neg (by omega)).trans ((if_neg (by omega)).trans ((if_neg (by omega)).trans ((if_neg (by omega)).trans (if_neg (by omega)))))), if_neg (by omega)⟩
theorem cmd0 {gg : Nat} {r : Nat → Int32} (h : gg / 10000 = 0) : cmdOk gg r = 0 ∧ cmdR gg r = r ∧ cmdN gg = 0 := ⟨(if_neg (by omega)).trans ((if_neg (by omega)).trans ((if_neg (by omega)).trans ((if_neg (by omega)).trans ((if_neg (by omega)).trans ((if_neg (by omega)).trans ((if_neg (by omega)).trans ((if_neg (by omega)).trans (if_neg (by omega))))))))), (if_neg (by omega)).trans ((if_neg (by omega)).trans ((if_neg (by omega)).trans ((if_neg (by omega)).trans ((if_neg (by omega)).trans (if_neg (by omega)))))), if_neg (by omega)⟩
section CM
variable {gg F A T : Nat} {r : Nat → Int32}
theorem cm1n (h : gg / 10000 = 1) (hF : F = gg % 10000) (hn : ¬ (1 ≤ F ∧ F ≤ 1440)) : cmdOk gg r = 0 ∧ cmdR gg r = r ∧ cmdN gg = 0 := by
  have e := cmd1 (r := r) h
  rw [← hF] at e
  exact ⟨e.1.trans (if_neg hn), e.2.1.trans (by rw [pcN_n hn]; rfl), e.2.2.trans (pcN_n hn)⟩
theorem cm1y (h : gg / 10000 = 1) (hF : F = gg % 10000) (hn : 1 ≤ F ∧ F ≤ 1440) : cmdOk gg r = 1 ∧ cmdR gg r = minsR F r ∧ cmdN gg = F := by
  have e := cmd1 (r := r) h
  rw [← hF] at e
  exact ⟨e.1.trans (if_pos hn), e.2.1.trans (by rw [pcN_y hn]), e.2.2.trans (pcN_y hn)⟩
theorem cm2n (h : gg / 10000 = 2) (hF : F = gg % 10000) (hn : ¬ F ≤ 9) : cmdOk gg r = 0 ∧ cmdR gg r = r ∧ cmdN gg = 0 := by
  have e := cmd2 (r := r) h
  exact ⟨e.1.trans (if_neg (by omega)), e.2.1.trans (if_neg (by omega)), e.2.2⟩
theorem cm2y (h : gg / 10000 = 2) (hF : F = gg % 10000) (hn : F ≤ 9) : cmdOk gg r = 1 ∧ cmdR gg r = plevel (nI F) r ∧ cmdN gg = 0 := by
  have e := cmd2 (r := r) h
  exact ⟨e.1.trans (if_pos (by omega)), e.2.1.trans ((if_pos (by omega)).trans (by rw [show gg % 10 = F by omega])), e.2.2⟩
theorem cm3n (h : gg / 10000 = 3) (hA : A = gg / 1000 % 10) (hT : T = gg % 1000) (hn : ¬ (A ≤ 1 ∧ T ≤ 500 ∧ pdom r = 0)) : cmdOk gg r = 0 ∧ cmdR gg r = r ∧ cmdN gg = 0 := by
  have e := cmd3 (r := r) h
  rw [← hA, ← hT] at e
  have hT2 : T < 1000 := by omega
  have hq : ¬ (A ≤ 1 ∧ corOk (sgnv A T) r) := fun q => hn ⟨q.1, (sg_ok hT2).mp ⟨q.2.1, q.2.2.1⟩, q.2.2.2⟩
  refine ⟨e.1.trans (if_neg hq), e.2.1.trans ?_, e.2.2⟩
  by_cases h1 : A ≤ 1
  · exact (if_pos h1).trans (if_neg fun q => hq ⟨h1, q⟩)
  · exact if_neg h1
theorem cm3y (h : gg / 10000 = 3) (hA : A = gg / 1000 % 10) (hT : T = gg % 1000) (hn : A ≤ 1 ∧ T ≤ 500 ∧ pdom r = 0) : cmdOk gg r = 1 ∧ cmdR gg r = upd r 4 (sgnv A T) ∧ cmdN gg = 0 := by
  have e := cmd3 (r := r) h
  rw [← hA, ← hT] at e
  have hT2 : T < 1000 := by omega
  have hs := (sg_ok (a := A) hT2).mpr hn.2.1
  have hq : corOk (sgnv A T) r := ⟨hs.1, hs.2, hn.2.2⟩
  exact ⟨e.1.trans (if_pos ⟨hn.1, hq⟩), e.2.1.trans ((if_pos hn.1).trans (if_pos hq)), e.2.2⟩
theorem cm4n (h : gg / 10000 = 4) (hA : A = gg / 1000 % 10) (hT : T = gg % 1000) (hn : ¬ (A < 8 ∧ T ≤ 255 ∧ pdom r = 0)) : cmdOk gg r = 0 ∧ cmdR gg r = r ∧ cmdN gg = 0 := by
  have e := cmd4 (r := r) h
  rw [← hA, ← hT] at e
  exact ⟨e.1.trans (if_neg hn), e.2.1.trans (if_neg hn), e.2.2⟩
theorem cm4y (h : gg / 10000 = 4) (hA : A = gg / 1000 % 10) (hT : T = gg % 1000) (hn : A < 8 ∧ T ≤ 255 ∧ pdom r = 0) : cmdOk gg r = 1 ∧ cmdR gg r = upd r (16 + A) (nI T) ∧ cmdN gg = 0 := by
  have e := cmd4 (r := r) h
  rw [← hA, ← hT] at e
  exact ⟨e.1.trans (if_pos hn), e.2.1.trans (if_pos hn), e.2.2⟩
theorem cm5n (h : gg / 10000 = 5) (hF : F = gg % 10000) (hn : ¬ F < 3) : cmdOk gg r = 0 ∧ cmdR gg r = r ∧ cmdN gg = 0 := by
  have e := cmd5 (r := r) h
  refine ⟨e.1.trans (if_neg (by omega)), e.2.1.trans ?_, e.2.2⟩
  by_cases h1 : gg / 10 % 1000 = 0
  · exact (if_pos h1).trans (if_neg (by omega))
  · exact if_neg h1
theorem cm5y (h : gg / 10000 = 5) (hF : F = gg % 10000) (hn : F < 3) : cmdOk gg r = 1 ∧ cmdR gg r = ptamper (nI F) r ∧ cmdN gg = 0 := by
  have e := cmd5 (r := r) h
  exact ⟨e.1.trans (if_pos (by omega)), e.2.1.trans ((if_pos (by omega)).trans ((if_pos (by omega)).trans (by rw [show gg % 10 = F by omega]))), e.2.2⟩
theorem cm6n (h : gg / 10000 = 6) (hA : A = gg / 1000 % 10) (hT : T = gg % 1000) (hn : ¬ (A < 4 ∧ T = 0)) : cmdOk gg r = 0 ∧ cmdR gg r = r ∧ cmdN gg = 0 := by
  have e := cmd6 (r := r) h
  rw [← hA, ← hT] at e
  refine ⟨e.1.trans (if_neg fun q => hn ⟨q.2, q.1⟩), e.2.1.trans ?_, e.2.2⟩
  by_cases h1 : T = 0
  · exact (if_pos h1).trans (if_neg fun q => hn ⟨q, h1⟩)
  · exact if_neg h1
theorem cm6y (h : gg / 10000 = 6) (hA : A = gg / 1000 % 10) (hT : T = gg % 1000) (hn : A < 4 ∧ T = 0) : cmdOk gg r = 1 ∧ cmdR gg r = psetAl A 1440 r ∧ cmdN gg = 0 := by
  have e := cmd6 (r := r) h
  rw [← hA, ← hT] at e
  exact ⟨e.1.trans (if_pos ⟨hn.2, hn.1⟩), e.2.1.trans ((if_pos hn.2).trans (if_pos hn.1)), e.2.2⟩
theorem cm7n (h : gg / 10000 = 7) (hF : F = gg % 10000) (hn : ¬ pdom r = nI F) : cmdOk gg r = 0 ∧ cmdR gg r = r ∧ cmdN gg = 0 := by
  have e := cmd7 (r := r) h
  exact ⟨e.1.trans (if_neg fun q => hn (by rw [show F = gg % 10 by omega]; exact q.2)), e.2.1, e.2.2⟩
theorem cm7y (h : gg / 10000 = 7) (hF : F = gg % 10000) (hn : pdom r = nI F) : cmdOk gg r = 1 ∧ cmdR gg r = r ∧ cmdN gg = 0 := by
  have e := cmd7 (r := r) h
  have h4 : F < 4 := by
    have h1 := pdom_nat r
    rw [hn, nI_clamp (by omega)] at h1
    exact h1
  exact ⟨e.1.trans (if_pos ⟨by omega, by rw [show gg % 10 = F by omega]; exact hn⟩), e.2.1, e.2.2⟩
theorem cm8n (h : gg / 10000 = 8) (hA : A = gg / 1000 % 10) (hT : T = gg % 1000) (hn : ¬ (A < 8 ∧ r (16 + A) = nI T)) : cmdOk gg r = 0 ∧ cmdR gg r = r ∧ cmdN gg = 0 := by
  have e := cmd8 (r := r) h
  rw [← hA, ← hT] at e
  exact ⟨e.1.trans (if_neg hn), e.2.1, e.2.2⟩
theorem cm8y (h : gg / 10000 = 8) (hA : A = gg / 1000 % 10) (hT : T = gg % 1000) (hn : A < 8 ∧ r (16 + A) = nI T) : cmdOk gg r = 1 ∧ cmdR gg r = r ∧ cmdN gg = 0 := by
  have e := cmd8 (r := r) h
  rw [← hA, ← hT] at e
  exact ⟨e.1.trans (if_pos hn), e.2.1, e.2.2⟩
theorem cm9n (h : gg / 10000 = 9) (hA : A = gg / 1000 % 10) (hT : T = gg % 1000) (hn : ¬ (A ≤ 1 ∧ poff r ≤ sgnv A T)) : cmdOk gg r = 0 ∧ cmdR gg r = r ∧ cmdN gg = 0 := by
  have e := cmd9 (r := r) h
  rw [← hA, ← hT] at e
  exact ⟨e.1.trans (if_neg hn), e.2.1, e.2.2⟩
theorem cm9y (h : gg / 10000 = 9) (hA : A = gg / 1000 % 10) (hT : T = gg % 1000) (hn : A ≤ 1 ∧ poff r ≤ sgnv A T) : cmdOk gg r = 1 ∧ cmdR gg r = r ∧ cmdN gg = 0 := by
  have e := cmd9 (r := r) h
  rw [← hA, ← hT] at e
  exact ⟨e.1.trans (if_pos hn), e.2.1, e.2.2⟩
end CM
theorem sgnv_0 {a b : Nat} (h : a = 0) : sgnv a b = nI b := if_pos h
theorem sgnv_1 {a b : Nat} (h : ¬ a = 0) : sgnv a b = -nI b := if_neg h
/-! a minute's due alarms, as bits -/
theorem dstep_27 {u v : Int32} {i : Nat} {r : Nat → Int32} {k : Nat} (hk : k = 1 ∨ k = 2 ∨ k = 3 ∨ k = 4 ∨ k = 6 ∨ k = 7 ∨ k = 0 ∨ k = 27 ∨ k = 30 ∨ k = 33 ∨ k = 36) : pdueStep u v i r k = r k := by
  unfold pdueStep
  split
  · split
    · unfold pring; rw [← upd_gen _ _ (by omega), ← upd_gen _ _ (by omega), ← upd_gen _ _ (by omega)]
    · rw [← upd_gen _ _ (by omega)]
  · rfl
theorem dfrom_27 {u v : Int32} : ∀ (n i : Nat) {r : Nat → Int32} {k : Nat}, (k = 1 ∨ k = 2 ∨ k = 3 ∨ k = 4 ∨ k = 6 ∨ k = 7 ∨ k = 0 ∨ k = 27 ∨ k = 30 ∨ k = 33 ∨ k = 36) → pdueFrom u v n i r k = r k := by
  intro n
  induction n with
  | zero => intro i r k _; rfl
  | succ n ih => intro i r k hk; exact (ih (i + 1) hk).trans (dstep_27 hk)
theorem dues_eq (u v : Int32) (r : Nat → Int32) (d0 d1 d2 d3 : Int32) (h0 : due u v (r 27) = d0) (h1 : due u v (r 30) = d1) (h2 : due u v (r 33) = d2) (h3 : due u v (r 36) = d3) : duesFrom u v 4 0 r 0 = (if d3 = 1 then (if d2 = 1 then (if d1 = 1 then (if d0 = 1 then (0 : Int32) ||| nI (2 ^ 0) else 0) ||| nI (2 ^ 1) else (if d0 = 1 then (0 : Int32) ||| nI (2 ^ 0) else 0)) ||| nI (2 ^ 2) else (if d1 = 1 then (if d0 = 1 then (0 : Int32) ||| nI (2 ^ 0) else 0) ||| nI (2 ^ 1) else (if d0 = 1 then (0 : Int32) ||| nI (2 ^ 0) else 0))) ||| nI (2 ^ 3) else (if d2 = 1 then (if d1 = 1 then (if d0 = 1 then (0 : Int32) ||| nI (2 ^ 0) else 0) ||| nI (2 ^ 1) else (if d0 = 1 then (0 : Int32) ||| nI (2 ^ 0) else 0)) ||| nI (2 ^ 2) else (if d1 = 1 then (if d0 = 1 then (0 : Int32) ||| nI (2 ^ 0) else 0) ||| nI (2 ^ 1) else (if d0 = 1 then (0 : Int32) ||| nI (2 ^ 0) else 0)))) := by
  have f1 : pdueStep u v 0 r 30 = r 30 := dstep_27 (by omega)
  have f2 : pdueStep u v 1 (pdueStep u v 0 r) 33 = r 33 := (dstep_27 (by omega)).trans (dstep_27 (by omega))
  have f3 : pdueStep u v 2 (pdueStep u v 1 (pdueStep u v 0 r)) 36 = r 36 := (dstep_27 (by omega)).trans ((dstep_27 (by omega)).trans (dstep_27 (by omega)))
  show (if due u v (pdueStep u v 2 (pdueStep u v 1 (pdueStep u v 0 r)) 36) = 1 then (if due u v (pdueStep u v 1 (pdueStep u v 0 r) 33) = 1 then (if due u v (pdueStep u v 0 r 30) = 1 then (if due u v (r 27) = 1 then (0 : Int32) ||| nI (2 ^ 0) else 0) ||| nI (2 ^ 1) else (if due u v (r 27) = 1 then (0 : Int32) ||| nI (2 ^ 0) else 0)) ||| nI (2 ^ 2) else (if due u v (pdueStep u v 0 r 30) = 1 then (if due u v (r 27) = 1 then (0 : Int32) ||| nI (2 ^ 0) else 0) ||| nI (2 ^ 1) else (if due u v (r 27) = 1 then (0 : Int32) ||| nI (2 ^ 0) else 0))) ||| nI (2 ^ 3) else (if due u v (pdueStep u v 1 (pdueStep u v 0 r) 33) = 1 then (if due u v (pdueStep u v 0 r 30) = 1 then (if due u v (r 27) = 1 then (0 : Int32) ||| nI (2 ^ 0) else 0) ||| nI (2 ^ 1) else (if due u v (r 27) = 1 then (0 : Int32) ||| nI (2 ^ 0) else 0)) ||| nI (2 ^ 2) else (if due u v (pdueStep u v 0 r 30) = 1 then (if due u v (r 27) = 1 then (0 : Int32) ||| nI (2 ^ 0) else 0) ||| nI (2 ^ 1) else (if due u v (r 27) = 1 then (0 : Int32) ||| nI (2 ^ 0) else 0)))) = _
  rw [f1, f2, f3, h0, h1, h2, h3]
theorem dues_bit (u v : Int32) (r : Nat → Int32) (i : Nat) (hi : i < 4) : (duesFrom u v 4 0 r 0 >>> (nI i &&& 31)) &&& 1 = due u v (r (27 + 3 * i)) := by
  rw [dues_eq u v r _ _ _ _ rfl rfl rfl rfl]
  rcases due_or u v (r 27) with a | a <;> rcases due_or u v (r 30) with b | b <;> rcases due_or u v (r 33) with c | c <;> rcases due_or u v (r 36) with d | d <;>
    (match i, hi with
    | 0, _ => rw [show 27 + 3 * 0 = 27 from rfl]; rw [a, b, c, d]; decide +kernel
    | 1, _ => rw [show 27 + 3 * 1 = 30 from rfl]; rw [a, b, c, d]; decide +kernel
    | 2, _ => rw [show 27 + 3 * 2 = 33 from rfl]; rw [a, b, c, d]; decide +kernel
    | 3, _ => rw [show 27 + 3 * 3 = 36 from rfl]; rw [a, b, c, d]; decide +kernel)
