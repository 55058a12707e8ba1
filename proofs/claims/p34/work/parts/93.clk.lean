/-! a clock of the class whole, as one block: addresses, text, page, diary, slots, and what reading and forecasts spoil -/
abbrev CA : Type := (Nat → Nat) × (Nat → Nat) × (Nat → Nat) × (Nat → Nat → Nat)
abbrev CTx : Type := Nat × (Nat → Int32)
abbrev CPg : Type := (Nat → Int32) × Int64 × Int64 × (Nat → Nat → Int32)
abbrev CHs : Type := Nat × (Nat → Nat → Int32) × (Nat → Int64) × (Nat → Int64) × (Nat → Nat → Nat → Int32)
abbrev CKs : Type := (Nat → Int32) × (Nat → Nat → Int32) × (Nat → Int64) × (Nat → Int64) × (Nat → Nat → Nat → Int32)
abbrev CSc : Type := (Int32 × Int32 × Int32 × Int32) × (Nat → Int32) × CPg × (Nat → Nat → Nat)
def CLB (ty : Nat → ClassId) (aC : CA) (tC : CTx) (pC : CPg) (hC : CHs) (kC : CKs) (sC : CSc) : List va_W :=
  [[ob (aC.1 0) 8 [.ref (aC.1 1), .ref (aC.2.1 0), .ref (aC.2.2.1 0), .ref (aC.1 2), .ref (aC.1 3)]],
   [ob (aC.1 1) 7 [.ref (aC.1 4), .int (nI tC.1), .int sC.1.1, .int sC.1.2.1, .int sC.1.2.2.1, .int sC.1.2.2.2, .ref (aC.1 5)]],
   [ia ty (aC.1 4) 60 tC.2], [za ty (aC.1 5) 8 sC.2.1],
   stW ty aC.2.1 pC.1 pC.2.1 pC.2.2.1 pC.2.2.2,
   stW ty aC.2.2.1 sC.2.2.1.1 sC.2.2.1.2.1 sC.2.2.1.2.2.1 sC.2.2.1.2.2.2,
   [ob (aC.1 2) 2 [.ref (aC.1 6), .int (nI hC.1)]], [sa ty (aC.1 6) 14 (fun k => some (sC.2.2.2 k 0))],
   hsW ty sC.2.2.2 hC.2.1 hC.2.2.1 hC.2.2.2.1 hC.2.2.2.2,
   [ob (aC.1 3) 3 [.ref (aC.1 7), .ref (aC.1 8)]], [sa ty (aC.1 7) 2 (fun k => some (aC.2.2.2 k 0))], [za ty (aC.1 8) 2 kC.1],
   stW ty (aC.2.2.2 0) (kC.2.1 0) (kC.2.2.1 0) (kC.2.2.2.1 0) (kC.2.2.2.2 0), stW ty (aC.2.2.2 1) (kC.2.1 1) (kC.2.2.1 1) (kC.2.2.2.1 1) (kC.2.2.2.2 1)]
def CLK (ty : Nat → ClassId) (aC : CA) (tC : CTx) (pC : CPg) (hC : CHs) (kC : CKs) (sC : CSc) : va_W := fl (CLB ty aC tC pC hC kC sC)
theorem CLK_fl {ty : Nat → ClassId} {aC : CA} {tC : CTx} {pC : CPg} {hC : CHs} {kC : CKs} {sC : CSc} : fl [CLK ty aC tC pC hC kC sC] = fl (CLB ty aC tC pC hC kC sC) := List.append_nil _
theorem CLK_in {ty : Nat → ClassId} {aC : CA} {tC : CTx} {pC : CPg} {hC : CHs} {kC : CKs} {sC : CSc} {bsc bsr : List va_W} (isC isR : List Nat) (h : (isC ++ isR).Perm (List.range 14)) (h1 : bk (CLB ty aC tC pC hC kC sC) isC = bsc) (h2 : bk (CLB ty aC tC pC hC kC sC) isR = bsr) : (fl [CLK ty aC tC pC hC kC sC]).Perm (fl bsc ++ fl bsr) := by
  rw [CLK_fl]
  exact pk isC isR 14 rfl h h1 h2
def noteH (pC : CPg) (hC : CHs) : CHs := (remC hC.1, remF hC.1 hC.2.1 pC.1, remF hC.1 hC.2.2.1 pC.2.1, remF hC.1 hC.2.2.2.1 pC.2.2.1, remF hC.1 hC.2.2.2.2 pC.2.2.2)
def saveK (j : Nat) (pC : CPg) (kC : CKs) : CKs := (upd kC.1 j 1, va_up kC.2.1 j pC.1, va_up kC.2.2.1 j pC.2.1, va_up kC.2.2.2.1 j pC.2.2.1, va_up kC.2.2.2.2 j pC.2.2.2)
def entH (hC : CHs) (i : Nat) : CPg := (hC.2.1 i, hC.2.2.1 i, hC.2.2.2.1 i, hC.2.2.2.2 i)
def entK (kC : CKs) (j : Nat) : CPg := (kC.2.1 j, kC.2.2.1 j, kC.2.2.2.1 j, kC.2.2.2.2 j)
def passP (n : Nat) (pC : CPg) : CPg := (minsR n pC.1, minsX n pC.1 pC.2.1, minsY n pC.1 pC.2.2.1, pC.2.2.2)
def tamP (i9 : Int32) (pC : CPg) : CPg := (ptamper i9 pC.1, pC.2.1, pC.2.2.1, ptamG i9 pC.1 pC.2.2.2)
