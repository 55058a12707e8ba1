/-! p34: the words of minutes -/
theorem dd_a {r : Nat → Int32} (h : pdom r = 3) : deadv r = 1 := if_pos (Or.inl h)
theorem dd_b {r : Nat → Int32} (h : ¬ pdom r = 3) (e : endsv r = 0) : deadv r = 0 := if_neg (fun q => q.elim h (fun z => absurd ((show endsv r = 1 from if_pos z).symm.trans e) (by decide)))
theorem ends_1 {r : Nat → Int32} (e : ¬ endsv r = 0) : endsv r = 1 := if_pos (Classical.byContradiction fun q => e (if_neg q))
theorem dd_c {r : Nat → Int32} (e : ¬ endsv r = 0) : deadv r = 1 := if_pos (Or.inr (Classical.byContradiction fun q => e (if_neg q)))
theorem lp_x {T k : Int32} (hk : 0 = (T.toInt + 1 - k.toInt).toNat) : T < k := by rw [fa_lt]; omega
theorem lp_s {n : Nat} {T k : Int32} (hk : n + 1 = (T.toInt + 1 - k.toInt).toNat) : ¬ T < k := by rw [fa_lt]; omega
theorem lp_k {n : Nat} {T k : Int32} (hk : n + 1 = (T.toInt + 1 - k.toInt).toNat) (hT : T.toInt ≤ 40000000) (h1 : 1 ≤ k.toInt) : n = (T.toInt + 1 - (k + 1).toInt).toNat ∧ 1 ≤ (k + 1).toInt := by
  have e : (k + 1).toInt = k.toInt + 1 := by rw [fb_addI (by rw [t_1]; omega) (by rw [t_1]; omega), t_1]
  rw [e]
  omega
theorem lp_n {n : Nat} {Q a k d : Int32} (hF : Q = if a = 1 then 1 else dueN (n + 1) k d) (h : ¬ rem32 k 1440 = d) (ha : a = 0 ∨ a = 1) : Q = if (a ||| 0) = 1 then 1 else dueN n (k + 1) d := by
  rw [or_0 ha, ← dn_n h]; exact hF
theorem lp_y {n : Nat} {Q a k d : Int32} (hF : Q = if a = 1 then 1 else dueN (n + 1) k d) (h : rem32 k 1440 = d) (ha : a = 0 ∨ a = 1) : Q = if (a ||| 1) = 1 then 1 else dueN n (k + 1) d := by
  rw [or_1 ha, if_pos rfl, hF, dn_y h]
  split <;> rfl
theorem lp_e {Q a k d : Int32} (hF : Q = if a = 1 then 1 else dueN 0 k d) (ha : a = 0 ∨ a = 1) : a = Q := by
  rw [hF]
  rcases ha with q | q
  · rw [q, if_neg (by decide)]; rfl
  · rw [q, if_pos rfl]
theorem lp_0 {r : Nat → Int32} {i : Nat} (hi : i < 4) (hn : 0 ≤ (r 1).toInt) : 1 ≤ (r 1 / 60 + 1).toInt ∧ dueQ i r = if (0 : Int32) = 1 then 1 else dueN ((pminute r 1 / 60).toInt + 1 - (r 1 / 60 + 1).toInt).toNat (r 1 / 60 + 1) (r (27 + 3 * i)) := by
  have h := div60_I (r 1) hn
  have e : (r 1 / 60 + 1).toInt = (r 1 / 60).toInt + 1 := by rw [fb_addI (by rw [t_1]; omega) (by rw [t_1]; omega), t_1]
  refine ⟨by omega, ?_⟩
  rw [if_neg (by decide), dueQ_eq r i hi, e]
  unfold due
  rw [show (pminute r 1 / 60).toInt + 1 - ((r 1 / 60).toInt + 1) = (pminute r 1 / 60).toInt - (r 1 / 60).toInt by omega]
theorem rem_set {k d : Int32} (h : d = -99999999) : ¬ rem32 k 1440 = d := by rw [h]; exact rem_ne k
theorem SG_c1 {B M : Int} {P : CPg} (h : SG B M P) : 0 ≤ (P.1 1).toInt := (SG_Cw h).2.1.1
theorem sG_1 {B M : Int} {P N : CPg} (h : SG B M P) (e : N = passP 1 P) (hB : B + 61 ≤ 2000000000) (hM : M + 2 ≤ 2000000000) : SG (B + 61) (M + 2) N := by
  rw [e]; exact SG_pass (n := 1) h hB hM
theorem pass_1 (n : Nat) (P : CPg) : (passP n P).1 = minsR n P.1 := rfl
theorem pass_x (n : Nat) (P : CPg) : (passP n P).2.1 = minsX n P.1 P.2.1 := rfl
theorem pass_y (n : Nat) (P : CPg) : (passP n P).2.2.1 = minsY n P.1 P.2.2.1 := rfl
theorem mins_1 (r : Nat → Int32) : minsR 1 r = pminute r := by simp only [minsR]
theorem mins_x (r : Nat → Int32) (x : Int64) : minsX 1 r x = minX r x := by simp only [minsX]
theorem mins_y (r : Nat → Int32) (x : Int64) : minsY 1 r x = minY r x := by simp only [minsY]
theorem psN_1 {P N : CPg} (h : N = passP 1 P) : N.1 = pminute P.1 := by rw [h, pass_1, mins_1]
theorem psN_x {P N : CPg} (h : N = passP 1 P) : N.2.1 = minX P.1 P.2.1 := by rw [h, pass_x, mins_x]
theorem psN_y {P N : CPg} (h : N = passP 1 P) : N.2.2.1 = minY P.1 P.2.2.1 := by rw [h, pass_y, mins_y]
theorem mins_z (r : Nat → Int32) : r = minsR 0 r := by simp only [minsR]
