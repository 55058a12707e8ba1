/-! scripts: a command is a group of five digits -/
def lrem64 (x y : Int64) : Int64 := x - x / y * y
def lush (x : Int64) (n : Int32) : Int64 := (x.toUInt64 >>> (n.toInt64.toUInt64 &&& Int64.toUInt64 63)).toInt64
def sgnv (a b : Nat) : Int32 := if a = 0 then nI b else -nI b
abbrev corOk (c : Int32) (r : Nat → Int32) : Prop := ¬ c < -500 ∧ ¬ c > 500 ∧ pdom r = 0
def pcN (n : Nat) : Nat := if 1 ≤ n ∧ n ≤ 1440 then n else 0
abbrev wrOk (i v : Nat) (r : Nat → Int32) : Prop := i < 8 ∧ v ≤ 255 ∧ pdom r = 0
def cmdOk (gg : Nat) (r : Nat → Int32) : Int32 :=
  if gg / 10000 = 1 then (if 1 ≤ gg % 10000 ∧ gg % 10000 ≤ 1440 then 1 else 0) else
  if gg / 10000 = 2 then (if gg / 10 % 1000 = 0 then 1 else 0) else
  if gg / 10000 = 3 then (if gg / 1000 % 10 ≤ 1 ∧ corOk (sgnv (gg / 1000 % 10) (gg % 1000)) r then 1 else 0) else
  if gg / 10000 = 4 then (if wrOk (gg / 1000 % 10) (gg % 1000) r then 1 else 0) else
  if gg / 10000 = 5 then (if gg / 10 % 1000 = 0 ∧ gg % 10 < 3 then 1 else 0) else
  if gg / 10000 = 6 then (if gg % 1000 = 0 ∧ gg / 1000 % 10 < 4 then 1 else 0) else
  if gg / 10000 = 7 then (if gg / 10 % 1000 = 0 ∧ pdom r = nI (gg % 10) then 1 else 0) else
  if gg / 10000 = 8 then (if gg / 1000 % 10 < 8 ∧ r (16 + gg / 1000 % 10) = nI (gg % 1000) then 1 else 0) else
  if gg / 10000 = 9 then (if gg / 1000 % 10 ≤ 1 ∧ poff r ≤ sgnv (gg / 1000 % 10) (gg % 1000) then 1 else 0) else 0
def cmdN (gg : Nat) : Nat := if gg / 10000 = 1 then pcN (gg % 10000) else 0
def cmdR (gg : Nat) (r : Nat → Int32) : Nat → Int32 :=
  if gg / 10000 = 1 then minsR (pcN (gg % 10000)) r else
  if gg / 10000 = 2 then (if gg / 10 % 1000 = 0 then plevel (nI (gg % 10)) r else r) else
  if gg / 10000 = 3 then (if gg / 1000 % 10 ≤ 1 then (if corOk (sgnv (gg / 1000 % 10) (gg % 1000)) r then upd r 4 (sgnv (gg / 1000 % 10) (gg % 1000)) else r) else r) else
  if gg / 10000 = 4 then (if wrOk (gg / 1000 % 10) (gg % 1000) r then upd r (16 + gg / 1000 % 10) (nI (gg % 1000)) else r) else
  if gg / 10000 = 5 then (if gg / 10 % 1000 = 0 then (if gg % 10 < 3 then ptamper (nI (gg % 10)) r else r) else r) else
  if gg / 10000 = 6 then (if gg % 1000 = 0 then (if gg / 1000 % 10 < 4 then psetAl (gg / 1000 % 10) 1440 r else r) else r) else r
def cmdG (gg : Nat) (r : Nat → Int32) (g : Nat → Nat → Int32) : Nat → Nat → Int32 :=
  if gg / 10000 = 5 then (if gg / 10 % 1000 = 0 then (if gg % 10 < 3 then ptamG (nI (gg % 10)) r g else g) else g) else g
theorem sgnv_eq (a b : Nat) (ha : a < 2 ^ 31) : (if nI a = 0 then nI b else -nI b) = sgnv a b := by
  unfold sgnv
  by_cases h : a = 0
  · subst h; rfl
  · rw [if_neg h, if_neg (nI_ne0 (by omega) ha)]
theorem pcN_y {n : Nat} (h : 1 ≤ n ∧ n ≤ 1440) : pcN n = n := if_pos h
theorem pcN_n {n : Nat} (h : ¬ (1 ≤ n ∧ n ≤ 1440)) : pcN n = 0 := if_neg h
theorem nlt_of {a b : Nat} (ha : a < 2 ^ 31) (hb : b < 2 ^ 31) (h : ¬ nI a < nI b) : ¬ a < b := fun q => h ((nI_ltI ha hb).mpr q)
theorem nle_of {a b : Nat} (ha : a < 2 ^ 31) (hb : b < 2 ^ 31) (h : ¬ nI a ≤ nI b) : ¬ a ≤ b := fun q => h ((nI_leI ha hb).mpr q)
theorem neq_of {a b : Nat} (ha : a < 2 ^ 31) (hb : b < 2 ^ 31) (h : ¬ nI a = nI b) : ¬ a = b := fun q => h ((nI_eq ha hb).mpr q)
theorem ite_y {c : Prop} [Decidable c] (h : ¬ (if c then (1 : Int32) else 0) = 0) : c := Classical.byContradiction fun q => h (if_neg q)
theorem ite_n {c : Prop} [Decidable c] (h : (if c then (1 : Int32) else 0) = 0) : ¬ c := fun q => absurd ((if_pos q).symm.trans h) (by decide)
theorem nI_cl {n : Nat} (h : n < 2 ^ 31) : (nI n).toNatClampNeg = n := nI_clamp h
theorem psetAl_off (i : Nat) (r : Nat → Int32) : psetAl i 1440 r = upd (upd r (27 + 3 * i) (-99999999)) (28 + 3 * i) 0 := rfl
theorem ite_nar {c : Prop} [Decidable c] : narrow .boolean (.int (if c then 1 else 0)) = .int (if c then 1 else 0) := by split <;> rfl
theorem upd_off (r : Nat → Int32) (v : Int32) {i k : Nat} (h : k ≠ 16 + i) : r k = upd r (16 + i) v k := by unfold upd; rw [if_neg h]
theorem upd_16 (r : Nat → Int32) (v : Int32) {i : Nat} (k : Nat) : upd (fun k => r (16 + k)) i v k = upd r (16 + i) v (16 + k) := by
  unfold upd
  by_cases h : k = i
  · subst h; rw [if_pos rfl, if_pos rfl]
  · rw [if_neg h, if_neg (by omega)]
