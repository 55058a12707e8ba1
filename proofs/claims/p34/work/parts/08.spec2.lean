def ptamR (p : Int32) (r : Nat → Int32) : Nat → Int32 :=
  if r 11 < 6 then upd (upd (upd (upd (upd (perase r) 8 (r 8 + 1)) (39 + 3 * (r 11).toNatClampNeg) p) (40 + 3 * (r 11).toNatClampNeg) (r 1)) (41 + 3 * (r 11).toNatClampNeg) (pdom r)) 11 (r 11 + 1) else upd (perase r) 8 (r 8 + 1)
def ptamper (p : Int32) (r : Nat → Int32) : Nat → Int32 := if r (24 + p.toNatClampNeg) = 1 then (if pdom r = 3 then r else ptamR p r) else r
def ptamG (p : Int32) (r : Nat → Int32) (g : Nat → Nat → Int32) : Nat → Nat → Int32 :=
  if r (24 + p.toNatClampNeg) = 1 then (if pdom r = 3 then g else (fun k => if k = 0 then rowUp (r 11) (g 0) p else if k = 1 then rowUp (r 11) (g 1) (r 1) else rowUp (r 11) (g 2) (pdom r))) else g
def setN (r : Nat → Int32) : Nat → Int32
  | 0 => 0
  | j + 1 => setN r j + (if r (27 + 3 * j) = -99999999 then 0 else 1)
def waitN (r : Nat → Int32) : Int32 := 0 + bz (r 28) + bz (r 31) + bz (r 34) + bz (r 37)
def ringN (r : Nat → Int32) : Int32 := 0 + r 29 + r 32 + r 35 + r 38
def ptell (r : Nat → Int32) (w : Int32) : Int32 :=
  if w = 0 then r 0 else if w = 1 then r 1 else if w = 2 then r 2 else if w = 3 then r 3 else if w = 4 then r 4 else if w = 5 then poff r else if w = 6 then bz (r 5) else if w = 7 then r 6 else if w = 8 then r 7 else if w = 9 then pdom r else if w = 10 then r 11 else if w = 11 then r 8 else if w = 12 then ringN r else if w = 13 then waitN r else r 10
def absv (x : Int32) : Int32 := if 0 ≤ x then x else 0 - x
def distv (m c : Int32) (r : Nat → Int32) : Int32 := absv (poff r + (r 2 + m * (r 3 - c) * 60) / 1000000)
def nearv (m b o : Int32) (r : Nat → Int32) : Int32 := if distv m o r ≥ distv m b r then b else o
def deadW (m : Int32) (r : Nat → Int32) : Int32 := if pdom r = 0 then 0 else if r 7 > m then 0 else 1
theorem ptamR_ne (p : Int32) {r : Nat → Int32} (h0 : ¬ r 11 < 0) {k : Nat} (h8 : k ≠ 8) (h11 : k ≠ 11) (hk : k < 39) : ptamR p r k = perase r k := by
  unfold ptamR
  by_cases h : r 11 < 6
  · rw [if_pos h]
    simp only [upd]
    rw [if_neg h11, if_neg (by omega), if_neg (by omega), if_neg (by omega), if_neg h8]
  · rw [if_neg h]; simp only [upd]; rw [if_neg h8]
theorem ptamR_8 (p : Int32) (r : Nat → Int32) : ptamR p r 8 = r 8 + 1 := by
  unfold ptamR
  by_cases h : r 11 < 6
  · rw [if_pos h]
    simp only [upd]
    rw [if_neg (by omega), if_neg (by omega), if_neg (by omega), if_neg (by omega), if_pos trivial]
  · rw [if_neg h]; rfl
theorem ptamR_11 (p : Int32) (r : Nat → Int32) : ptamR p r 11 = if r 11 < 6 then r 11 + 1 else r 11 := by
  unfold ptamR
  by_cases h : r 11 < 6
  · rw [if_pos h, if_pos h]; rfl
  · rw [if_neg h, if_neg h]; rfl
theorem perase_ne (r : Nat → Int32) {k : Nat} (h : k < 16 ∨ 24 ≤ k) : perase r k = r k := by unfold perase; rw [if_neg (by omega)]
theorem perase_in (r : Nat → Int32) {k : Nat} (h : 16 ≤ k) (h2 : k < 24) : perase r k = 0 := by unfold perase; rw [if_pos ⟨h, h2⟩]
/-- addresses out of a list -/
def adr (l : List Nat) : Nat → Nat := fun k => l.getD k 0
