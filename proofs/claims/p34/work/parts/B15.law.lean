/-! p34: the law's own words -/
theorem RK_idem {P : CPg} {k m : CKs} {j : Nat} (s : RK (saveK j P k) m) : RK (saveK j P (saveK j P k)) m := by
  intro i hi
  rw [ent_save, save_1]
  by_cases e : i = j
  · have h := s i hi
    rw [ent_save, save_1, if_pos e, if_pos e] at h
    rw [if_pos e, if_pos e]
    exact h
  · rw [if_neg e, if_neg e]; exact s i hi
theorem rd_E0 {cd : Nat → Int32} : (if (rdAll cd 0).1 = true then (-99999999 : Int32) else nI (rdAll cd 0).2.1) = 0 := by
  refine ans_F (p := 0) (rd_headF (r' := p0) ?_)
  unfold headS
  rw [if_neg (by
    unfold hereV
    rw [if_neg (by omega)]
    decide)]
theorem SG_p0 (g : Nat → Nat → Int32) : SG 0 0 (p0, 0, 0, g) := by
  refine ⟨Good_Rd Rd_p0 (Int.le_refl 0), ⟨?_, ?_, ?_, ?_, fun k h1 h2 => ?_, fun j hj h2 => ?_⟩, fun q => ?_⟩
  · show ((0 ≤ (p0 12).toInt ∧ 0 ≤ (p0 13).toInt ∧ 0 ≤ (p0 14).toInt ∧ 0 ≤ (p0 15).toInt) ∧ (p0 12).toInt + (p0 13).toInt + (p0 14).toInt + (p0 15).toInt = (p0 0).toInt ∧ (p0 0).toInt ≤ 0)
    decide +kernel
  · show (p0 11).toInt ≤ (p0 8).toInt ∧ (p0 8).toInt ≤ 0
    decide +kernel
  · show 0 ≤ (p0 10).toInt ∧ (p0 10).toInt ≤ 0
    decide +kernel
  · show (p0 7).toInt ≤ 9999
    decide +kernel
  · have e : p0 k = 0 := by
      unfold p0
      rw [if_neg (by omega), if_neg (by omega), if_neg (by omega), if_neg (by omega)]
    show 0 ≤ (p0 k).toInt ∧ (p0 k).toInt ≤ 255
    rw [e, t_0]; omega
  · have h3 : nI j < 0 := h2
    exact absurd h3 (nI_pos (by omega))
  · have q2 : pdom p0 = 3 := q
    exact absurd q2 (by decide +kernel)
theorem SI_0 {P : CPg} {hu ku : CHr} (h : SG 0 0 P) : SI (100000000 + 90000 * ((0 : Nat) : Int)) (3000 * ((0 : Nat) : Int)) P (0, hu) ((fun _ => 0), ku) :=
  ⟨SG_up h (by omega) (by omega), ⟨Nat.zero_le _, fun i hi => absurd hi (Nat.not_lt_zero i)⟩, fun j hj hk => absurd rfl hk⟩
theorem SR_0 {P Q : CPg} {hu gu ku lu : CHr} (h : RP P Q) : SR P (0, hu) ((fun _ => 0), ku) Q (0, gu) ((fun _ => 0), lu) := ⟨h, RH_zero, fun j hj => ⟨rfl, fun hk => absurd rfl hk⟩⟩
theorem RP_r {r : Nat → Int32} {x y : Int64} {g g2 : Nat → Nat → Int32} : RP (r, x, y, g) (r, x, y, g2) := ⟨rfl, rfl, rfl⟩
theorem scr_of {sb L : Nat} {xs : Nat → Int32} {A : Nat → Prop} {U : State} {H : Heap} (h : va_X sb L xs U H) (hA : ¬ A sb) : Scr sb L xs A U H := by
  obtain ⟨scr, h1, h2, h3, h4, h5⟩ := h
  exact ⟨scr, h1, h2, h3, Nat.le_of_eq h4.symm, congrArg Nat.toInt32 h4, h5, hA⟩
/-- an action of both -/
theorem act_two {x y : Nat} {P Q P2 Q2 : CPg} {h g h2 g2 : CHs} {k m k2 m2 : CKs} {B M : Int} {a b : Int32} (hp : actF x y P h k = (a, P2, h2, k2)) (hq : actF x y Q g m = (b, Q2, g2, m2)) (sp : SI B M P h k) (sq : SI B M Q g m) (r : SR P h k Q g m) (hB : 99999999 ≤ B ∧ B ≤ 1900000000) (hM : M ≤ 1900000000) : (b = a ∧ SR P2 h2 k2 Q2 g2 m2) ∧ SI (B + 90000) (M + 3000) P2 h2 k2 ∧ SI (B + 90000) (M + 3000) Q2 g2 m2 := by
  have h1 := act_SR (x := x) (y := y) r
  have h2 := act_SI (x := x) (y := y) sp hB hM
  have h3 := act_SI (x := x) (y := y) sq hB hM
  rw [hp] at h1 h2
  rw [hq] at h1 h3
  exact ⟨h1, h2, h3⟩
theorem CLK_nest {pre : List va_W} {ty : Nat → ClassId} {aC : CA} {tC : CTx} {pC : CPg} {hC : CHs} {kC : CKs} {sC : CSc} : fl (pre ++ [CLK ty aC tC pC hC kC sC]) = fl (pre ++ CLB ty aC tC pC hC kC sC) := (fl_nest _ _).symm
