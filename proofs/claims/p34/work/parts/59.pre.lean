/-! a script, its groups -/
theorem dv5 {a : Nat} (h : a < 2 ^ 63) : lN a / 100000 = lN (a / 100000) := pk_lDiv h (by decide) (by decide)
theorem grp0 {a : Nat} (h : a < 2 ^ 63) : Int64.toInt32 (lrem64 (lN a) 100000) = nI (a % 100000) := (congrArg Int64.toInt32 (pk_lRem h (by decide) (by decide))).trans (lN_i _)
theorem grp1 {a : Nat} (h : a < 2 ^ 63) : Int64.toInt32 (lrem64 (lN a / 100000) 100000) = nI (a / 100000 % 100000) := by rw [dv5 h]; exact grp0 (by omega)
theorem grp2 {a : Nat} (h : a < 2 ^ 63) : Int64.toInt32 (lrem64 (lN a / 100000 / 100000) 100000) = nI (a / 100000 / 100000 % 100000) := by rw [dv5 h]; exact grp1 (by omega)
theorem fit0 {a : Nat} (h : a < 2 ^ 63) : lg_cmp (lN a) 0 = 0 ↔ a = 0 := (lg_cmp_eq _ _).trans (pk_lEQ h (by decide))
theorem fit1 {a : Nat} (h : a < 2 ^ 63) : lg_cmp (lN a / 100000) 0 = 0 ↔ a < 100000 := by rw [dv5 h, fit0 (by omega)]; omega
theorem fit2 {a : Nat} (h : a < 2 ^ 63) : lg_cmp (lN a / 100000 / 100000) 0 = 0 ↔ a < 10000000000 := by rw [dv5 h, fit1 (by omega)]; omega
theorem fit3 {a : Nat} (h : a < 2 ^ 63) : lg_cmp (lN a / 100000 / 100000 / 100000) 0 = 0 ↔ a < 1000000000000000 := by rw [dv5 h, fit2 (by omega)]; omega
theorem nneg {a : Nat} (h : a < 2 ^ 63) : ¬ lg_cmp (lN a) 0 < 0 := fun q => absurd ((pk_lLT (b := 0) h (by decide)).mp ((lg_cmp_lt _ _).mp q)) (by omega)
def scR : List Nat → (Nat → Int32) → Nat → Int32
  | [], r => r
  | G :: gs, r => if cmdOk G r = 0 then cmdR G r else scR gs (cmdR G r)
def scX : List Nat → (Nat → Int32) → Int64 → Int64
  | [], _, x => x
  | G :: gs, r, x => if cmdOk G r = 0 then minsX (cmdN G) r x else scX gs (cmdR G r) (minsX (cmdN G) r x)
def scY : List Nat → (Nat → Int32) → Int64 → Int64
  | [], _, y => y
  | G :: gs, r, y => if cmdOk G r = 0 then minsY (cmdN G) r y else scY gs (cmdR G r) (minsY (cmdN G) r y)
def scG : List Nat → (Nat → Int32) → (Nat → Nat → Int32) → Nat → Nat → Int32
  | [], _, g => g
  | G :: gs, r, g => if cmdOk G r = 0 then cmdG G r g else scG gs (cmdR G r) (cmdG G r g)
def scV : Nat → List Nat → (Nat → Int32) → Int32
  | _, [], _ => -99999999
  | k, G :: gs, r => if cmdOk G r = 0 then nI k else scV (k + 1) gs (cmdR G r)
