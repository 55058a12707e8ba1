def dueQ (i : Nat) (r : Nat → Int32) : Int32 := due (r 1 / 60) (pminute r 1 / 60) (pminute r (27 + 3 * i))
def dueF (i : Nat) : Nat → Nat → (Nat → Int32) → Int32
  | 0, _, _ => -99999999
  | n + 1, k, r => if dueQ i r = 0 then dueF i n (k + 1) (pminute r) else nI k
/-- the minutes that pass until it is due -/
def dueM (i : Nat) : Nat → (Nat → Int32) → Nat
  | 0, _ => 0
  | n + 1, r => if dueQ i r = 0 then dueM i n (pminute r) + 1 else 1
def dueInv (i k : Nat) (r rr : Nat → Int32) (x y xx yy : Int64) : Prop :=
  dueF i 3000 1 r = dueF i (3001 - k) k rr ∧ minsR (dueM i 3000 r) r = minsR (dueM i (3001 - k) rr) rr ∧ minsX (dueM i 3000 r) r x = minsX (dueM i (3001 - k) rr) rr xx ∧ minsY (dueM i 3000 r) r y = minsY (dueM i (3001 - k) rr) rr yy
theorem due_end {i k : Nat} {r rr : Nat → Int32} {x y xx yy : Int64} (h : dueInv i k r rr x y xx yy) (hk : 3001 ≤ k) : dueF i 3000 1 r = -99999999 ∧ minsR (dueM i 3000 r) r = rr ∧ minsX (dueM i 3000 r) r x = xx ∧ minsY (dueM i 3000 r) r y = yy := by
  unfold dueInv at h
  rw [show 3001 - k = 0 by omega] at h
  exact h
theorem due_hit {i k : Nat} {r rr : Nat → Int32} {x y xx yy : Int64} (h : dueInv i k r rr x y xx yy) (hk : k < 3001) (hq : ¬ dueQ i rr = 0) : dueF i 3000 1 r = nI k ∧ minsR (dueM i 3000 r) r = pminute rr ∧ minsX (dueM i 3000 r) r x = minX rr xx ∧ minsY (dueM i 3000 r) r y = minY rr yy := by
  unfold dueInv at h
  rw [show 3001 - k = (3001 - (k + 1)) + 1 by omega] at h
  have e1 : dueF i (3001 - (k + 1) + 1) k rr = nI k := if_neg hq
  have e2 : dueM i (3001 - (k + 1) + 1) rr = 1 := if_neg hq
  rw [e1, e2] at h
  exact h
theorem due_next {i k : Nat} {r rr : Nat → Int32} {x y xx yy : Int64} (h : dueInv i k r rr x y xx yy) (hk : k < 3001) (hq : dueQ i rr = 0) : dueInv i (k + 1) r (pminute rr) x y (minX rr xx) (minY rr yy) := by
  unfold dueInv at h ⊢
  rw [show 3001 - k = (3001 - (k + 1)) + 1 by omega] at h
  have e1 : dueF i (3001 - (k + 1) + 1) k rr = dueF i (3001 - (k + 1)) (k + 1) (pminute rr) := if_pos hq
  have e2 : dueM i (3001 - (k + 1) + 1) rr = dueM i (3001 - (k + 1)) (pminute rr) + 1 := if_pos hq
  rw [e1, e2] at h
  exact h
