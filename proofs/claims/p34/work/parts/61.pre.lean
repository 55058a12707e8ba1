/-! simulations -/
def simK (x : Int64) : Int64 := x * 6364136223846793005 + 1442695040888963407
def simN (x : Int64) : Nat := (x.toUInt64 >>> 33).toNat
theorem u64_lN (u : UInt64) : u.toInt64 = lN u.toNat := by
  apply Int64.toBitVec_inj.mp
  show u.toBitVec = (Int64.ofNat u.toNat).toBitVec
  rw [Int64.toBitVec_ofNat']
  exact (BitVec.ofNat_toNat 64 u.toBitVec).symm.trans (by simp)
theorem sim_nI (x : Int64) : Int64.toInt32 (lush x 33) = nI (simN x) := by
  have e : lush x 33 = (x.toUInt64 >>> 33).toInt64 := rfl
  rw [e, u64_lN]
  exact lN_i _
theorem sim_lt (x : Int64) : simN x < 2 ^ 31 := by
  unfold simN
  have h := x.toUInt64.toNat_lt
  have e : (x.toUInt64 >>> 33).toNat = x.toUInt64.toNat >>> 33 := by
    rw [UInt64.toNat_shiftRight]
    rfl
  rw [e, Nat.shiftRight_eq_div_pow]
  omega
def simQ (q : Nat) (r : Nat → Int32) : Nat → Int32 := if q % 8 = 0 then plevel (nI (q / 8 % 10)) r else if q % 8 = 1 then ptamper (nI (q / 8 % 3)) r else r
def simQG (q : Nat) (r : Nat → Int32) (g : Nat → Nat → Int32) : Nat → Nat → Int32 := if q % 8 = 0 then g else if q % 8 = 1 then ptamG (nI (q / 8 % 3)) r g else g
def simS (q : Nat) (r : Nat → Int32) : Nat → Int32 := minsR (1 + q / 64 % 60) (simQ q r)
def simR (K : Int64 → Int64) (N : Int64 → Nat) : Nat → Int64 → (Nat → Int32) → Nat → Int32
  | 0, _, r => r
  | n + 1, s, r => simR K N n (K s) (simS (N (K s)) r)
def simX (K : Int64 → Int64) (N : Int64 → Nat) : Nat → Int64 → (Nat → Int32) → Int64 → Int64
  | 0, _, _, x => x
  | n + 1, s, r, x => simX K N n (K s) (simS (N (K s)) r) (minsX (1 + N (K s) / 64 % 60) (simQ (N (K s)) r) x)
def simY (K : Int64 → Int64) (N : Int64 → Nat) : Nat → Int64 → (Nat → Int32) → Int64 → Int64
  | 0, _, _, y => y
  | n + 1, s, r, y => simY K N n (K s) (simS (N (K s)) r) (minsY (1 + N (K s) / 64 % 60) (simQ (N (K s)) r) y)
def simG (K : Int64 → Int64) (N : Int64 → Nat) : Nat → Int64 → (Nat → Int32) → (Nat → Nat → Int32) → Nat → Nat → Int32
  | 0, _, _, g => g
  | n + 1, s, r, g => simG K N n (K s) (simS (N (K s)) r) (simQG (N (K s)) r g)
def simInv (K : Int64 → Int64) (N : Int64 → Nat) (m k : Nat) (s s2 : Int64) (r rr : Nat → Int32) (x xx y yy : Int64) (g gg : Nat → Nat → Int32) : Prop :=
  simR K N m s r = simR K N (m - k) s2 rr ∧ simX K N m s r x = simX K N (m - k) s2 rr xx ∧ simY K N m s r y = simY K N (m - k) s2 rr yy ∧ simG K N m s r g = simG K N (m - k) s2 rr gg
theorem sim_end {K : Int64 → Int64} {N : Int64 → Nat} {m k : Nat} {s s2 : Int64} {r rr : Nat → Int32} {x xx y yy : Int64} {g gg : Nat → Nat → Int32} (h : simInv K N m k s s2 r rr x xx y yy g gg) (hk : m ≤ k) : simR K N m s r = rr ∧ simX K N m s r x = xx ∧ simY K N m s r y = yy ∧ simG K N m s r g = gg := by
  unfold simInv at h
  rw [show m - k = 0 by omega] at h
  exact h
theorem sim_step {K : Int64 → Int64} {N : Int64 → Nat} {m k : Nat} {s s2 : Int64} {r rr : Nat → Int32} {x xx y yy : Int64} {g gg : Nat → Nat → Int32} (h : simInv K N m k s s2 r rr x xx y yy g gg) (hk : k < m) : simInv K N m (k + 1) s (K s2) r (simS (N (K s2)) rr) x (minsX (1 + N (K s2) / 64 % 60) (simQ (N (K s2)) rr) xx) y (minsY (1 + N (K s2) / 64 % 60) (simQ (N (K s2)) rr) yy) g (simQG (N (K s2)) rr gg) := by
  unfold simInv at h ⊢
  rw [show m - k = (m - (k + 1)) + 1 by omega] at h
  exact h
theorem Pw_simQ {q : Nat} {r : Nat → Int32} (h : Pw r) : Pw (simQ q r) := by
  unfold simQ
  split
  · exact Pw_level h
  · split
    · exact Pw_tamper h
    · exact h
theorem Pw_simS {q : Nat} {r : Nat → Int32} (h : Pw r) : Pw (simS q r) := Pw_mins (Pw_simQ h)
