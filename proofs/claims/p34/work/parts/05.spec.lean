/-! the pages: one meaning for the class's State and for the reference's page of 57 numbers
0 world, 1 clock, 2 rest, 3 error, 4 correction, 5 valid, 6 level, 7 charge, 8 tampers, 9 rang, 10 losses, 11 rows, 12.. spent, 16.. registers, 24.. pins, 27+3i alarm (minute, waits, rings), 39+3j row -/
def rem32 (x y : Int32) : Int32 := x - (x / y) * y
def domv (lv ch : Int32) : Int32 := if lv < 6 then (if ch = 0 then 3 else if lv < 3 then 2 else 1) else 0
def dueN : Nat → Int32 → Int32 → Int32
  | 0, _, _ => 0
  | n + 1, k, d => if rem32 k 1440 = d then 1 else dueN n (k + 1) d
def due (u v d : Int32) : Int32 := dueN (v.toInt - u.toInt).toNat (u + 1) d
def pdom (r : Nat → Int32) : Int32 := domv (r 6) (r 7)
def poff (r : Nat → Int32) : Int32 := r 1 - 60 * r 0
def perase (r : Nat → Int32) : Nat → Int32 := fun k => if 16 ≤ k ∧ k < 24 then 0 else r k
def plose (r : Nat → Int32) : Nat → Int32 := upd (upd (upd (upd (upd (upd (upd (upd (upd (perase r) 1 0) 2 0) 5 0) 10 (r 10 + 1)) 11 0) 28 0) 31 0) 34 0) 37 0
def pring (i : Nat) (r : Nat → Int32) : Nat → Int32 := upd (upd (upd r (28 + 3 * i) 0) (29 + 3 * i) (r (29 + 3 * i) + 1)) 9 (r 9 + 1)
def pringIf (i : Nat) (r : Nat → Int32) : Nat → Int32 := if r (28 + 3 * i) = 1 then pring i r else r
def pringFrom : Nat → Nat → (Nat → Int32) → Nat → Int32
  | 0, _, r => r
  | n + 1, i, r => pringFrom n (i + 1) (pringIf i r)
def psettle (b : Int32) (r : Nat → Int32) : Nat → Int32 := if pdom r = b then r else if pdom r = 3 then plose r else if pdom r = 0 then pringFrom 4 0 r else r
def plevel (v : Int32) (r : Nat → Int32) : Nat → Int32 := psettle (pdom r) (upd r 6 v)
def pcharge (v : Int32) (r : Nat → Int32) : Nat → Int32 := psettle (pdom r) (upd r 7 v)
def pdrift (r : Nat → Int32) : Int32 := (r 3 - r 4) * 60
def pclock (r : Nat → Int32) : Nat → Int32 := upd (upd r 1 (r 1 + 60 + (r 2 + pdrift r) / 1000000)) 2 (r 2 + pdrift r - (r 2 + pdrift r) / 1000000 * 1000000)
def pdueStep (u v : Int32) (i : Nat) (r : Nat → Int32) : Nat → Int32 := if due u v (r (27 + 3 * i)) = 1 then (if pdom r = 0 then pring i r else upd r (28 + 3 * i) 1) else r
def pdueFrom (u v : Int32) : Nat → Nat → (Nat → Int32) → Nat → Int32
  | 0, _, r => r
  | n + 1, i, r => pdueFrom u v n (i + 1) (pdueStep u v i r)
def pgo (r : Nat → Int32) : Nat → Int32 := pdueFrom (r 1 / 60) (pclock r 1 / 60) 4 0 (pclock r)
def pspent (r : Nat → Int32) : Nat → Int32 := upd (upd r 0 (r 0 + 1)) (12 + (pdom r).toNatClampNeg) (r (12 + (pdom r).toNatClampNeg) + 1)
def pspend (r : Nat → Int32) : Nat → Int32 := if pdom r = 1 ∨ pdom r = 2 then upd (pspent r) 7 (r 7 - 1) else pspent r
def pm2 (r : Nat → Int32) : Nat → Int32 := psettle (pdom r) (pspend r)
def pminute (r : Nat → Int32) : Nat → Int32 := if pdom (pm2 r) = 3 then pm2 r else pgo (pm2 r)
def minX (r : Nat → Int32) (x : Int64) : Int64 := if pdom (pm2 r) = 3 then x else x + Int32.toInt64 (pm2 r 4 * 60)
def minY (r : Nat → Int32) (y : Int64) : Int64 := if pdom (pm2 r) = 3 then y else y + Int32.toInt64 (pdrift (pm2 r))
def minsR : Nat → (Nat → Int32) → Nat → Int32
  | 0, r => r
  | n + 1, r => minsR n (pminute r)
def minsX : Nat → (Nat → Int32) → Int64 → Int64
  | 0, _, x => x
  | n + 1, r, x => minsX n (pminute r) (minX r x)
def minsY : Nat → (Nat → Int32) → Int64 → Int64
  | 0, _, y => y
  | n + 1, r, y => minsY n (pminute r) (minY r y)
def p0 : Nat → Int32 := fun k => if k = 3 then 100 else if k = 6 then 9 else if k = 7 then 1000 else if k = 27 ∨ k = 30 ∨ k = 33 ∨ k = 36 then -99999999 else 0
/-- the cells of a State, and all that hangs on it -/
def stW (ty : Nat → ClassId) (a : Nat → Nat) (r : Nat → Int32) (x y : Int64) (g : Nat → Nat → Int32) : va_W :=
  [ob (a 0) 4 [.ref (a 1), .ref (a 2), .ref (a 3), .ref (a 4), .ref (a 5), .int (r 0)],
   ob (a 1) 1 [.int (r 1), .int (r 2), .int (bz (r 5)), .int (r 3), .int (r 4), .long x, .long y],
   ob (a 2) 5 [.ref (a 6), .int (r 6), .int (r 7), .int (r 10)],
   ia ty (a 6) 4 (fun k => r (12 + k)),
   ob (a 3) 6 [.ref (a 7), .ref (a 8), .ref (a 9), .ref (a 10), .int (r 11), .int (r 8)],
   za ty (a 7) 3 (fun k => bz (r (24 + k))),
   ia ty (a 8) 6 (g 0), ia ty (a 9) 6 (g 1), ia ty (a 10) 6 (g 2),
   ia ty (a 4) 8 (fun k => r (16 + k)),
   aa ty (a 5) 4 (fun k => some (a (11 + k))),
   ob (a 11) 0 [.int (r 27), .int (bz (r 28)), .int (r 29)],
   ob (a 12) 0 [.int (r 30), .int (bz (r 31)), .int (r 32)],
   ob (a 13) 0 [.int (r 33), .int (bz (r 34)), .int (r 35)],
   ob (a 14) 0 [.int (r 36), .int (bz (r 37)), .int (r 38)]]
theorem stW_P {D : va_G} {ty : Nat → ClassId} {a : Nat → Nat} {H : Heap} {rest : List va_W} {v0 v1 v2 v5 v3 v4 v6 v7 v10 v11 v8 m0 w0 k0 m1 w1 k1 m2 w2 k2 m3 w3 k3 : Int32} {x y : Int64} {f12 f24 f16 g0 g1 g2 : Nat → Int32} (r : Nat → Int32) (g : Nat → Nat → Int32)
    (hP : va_P D vwCl (fl ([ob (a 0) 4 [.ref (a 1), .ref (a 2), .ref (a 3), .ref (a 4), .ref (a 5), .int v0]] ::
      [ob (a 1) 1 [.int v1, .int v2, .int v5, .int v3, .int v4, .long x, .long y]] ::
      [ob (a 2) 5 [.ref (a 6), .int v6, .int v7, .int v10]] :: [ia ty (a 6) 4 f12] ::
      [ob (a 3) 6 [.ref (a 7), .ref (a 8), .ref (a 9), .ref (a 10), .int v11, .int v8]] :: [za ty (a 7) 3 f24] :: [ia ty (a 8) 6 g0] :: [ia ty (a 9) 6 g1] :: [ia ty (a 10) 6 g2] :: [ia ty (a 4) 8 f16] :: [aa ty (a 5) 4 (fun k => some (a (11 + k)))] ::
      [ob (a 11) 0 [.int m0, .int w0, .int k0]] :: [ob (a 12) 0 [.int m1, .int w1, .int k1]] :: [ob (a 13) 0 [.int m2, .int w2, .int k2]] :: [ob (a 14) 0 [.int m3, .int w3, .int k3]] :: rest)) H)
    (h0 : v0 = r 0) (h1 : v1 = r 1) (h2 : v2 = r 2) (h5 : v5 = bz (r 5)) (h3 : v3 = r 3) (h4 : v4 = r 4) (h6 : v6 = r 6) (h7 : v7 = r 7) (h10 : v10 = r 10) (h11 : v11 = r 11) (h8 : v8 = r 8)
    (hm0 : m0 = r 27) (hw0 : w0 = bz (r 28)) (hk0 : k0 = r 29) (hm1 : m1 = r 30) (hw1 : w1 = bz (r 31)) (hk1 : k1 = r 32) (hm2 : m2 = r 33) (hw2 : w2 = bz (r 34)) (hk2 : k2 = r 35) (hm3 : m3 = r 36) (hw3 : w3 = bz (r 37)) (hk3 : k3 = r 38)
    (h12 : ∀ k, k < 4 → f12 k = r (12 + k)) (h24 : ∀ k, k < 3 → f24 k = bz (r (24 + k))) (h16 : ∀ k, k < 8 → f16 k = r (16 + k)) (hg0 : ∀ k, k < 6 → g0 k = g 0 k) (hg1 : ∀ k, k < 6 → g1 k = g 1 k) (hg2 : ∀ k, k < 6 → g2 k = g 2 k) : va_P D vwCl (fl (stW ty a r x y g :: rest)) H := by
  subst h0 h1 h2 h5 h3 h4 h6 h7 h10 h11 h8 hm0 hw0 hk0 hm1 hw1 hk1 hm2 hw2 hk2 hm3 hw3 hk3
  obtain ⟨z0, hP⟩ := P_cons.mp hP
  obtain ⟨z1, hP⟩ := P_cons.mp hP
  obtain ⟨z2, hP⟩ := P_cons.mp hP
  obtain ⟨z3, hP⟩ := P_cons.mp hP
  obtain ⟨z4, hP⟩ := P_cons.mp hP
  obtain ⟨z5, hP⟩ := P_cons.mp hP
  obtain ⟨z6, hP⟩ := P_cons.mp hP
  obtain ⟨z7, hP⟩ := P_cons.mp hP
  obtain ⟨z8, hP⟩ := P_cons.mp hP
  obtain ⟨z9, hP⟩ := P_cons.mp hP
  exact P_cons.mpr ⟨z0, P_cons.mpr ⟨z1, P_cons.mpr ⟨z2, P_cons.mpr ⟨at_ia h12 z3, P_cons.mpr ⟨z4, P_cons.mpr ⟨at_za h24 z5, P_cons.mpr ⟨at_ia hg0 z6, P_cons.mpr ⟨at_ia hg1 z7, P_cons.mpr ⟨at_ia hg2 z8, P_cons.mpr ⟨at_ia h16 z9, hP⟩⟩⟩⟩⟩⟩⟩⟩⟩⟩
