/-! the law's loop -/
def lng (a b : Int32) : Int64 := (Int32.toInt64 a <<< (Int32.toInt64 32 &&& 63)) ||| (Int32.toInt64 b &&& 4294967295)
theorem lw_sld {p : Program} {l : Launch} {e : Env} {R : Room} {s : State} {m : MethodId} {args : Array Value} {below : List Frame} {meth : Method} {c : Code} {H0 H : Heap} {locs : List Loc} {cells slots : Nat} {Q : State → Prop} {cc : ByteArray} {pc : Nat} {ls : Array Slot} {rest : List Value} {A : Nat → Prop} (hexec : p.tables.exec = Jvm.exec) (hb : c.code = cc) {b L : Nat} {xs : Nat → Int32} (hX : va_X b L xs s H0) (hbl : b < H0.size) (hbA : ¬ A b) (hS : va_S A H0 H locs) {j : Nat} (hj : j < L) (hL : L ≤ 2048) (hdg : decode cc pc = .ok (.iaload, 1))
    (kk : W p l e R s m args below meth c H locs cells slots Q (F0 m (pc + 1) ls (.int (xs j) :: rest))) : W p l e R s m args below meth c H locs cells slots Q (F0 m pc ls (.int (nI j) :: .ref b :: rest)) := by
  refine va_sld hexec hb hX hbl hbA hS (vp_in_nI hj (by omega)) hdg ?_
  rw [nI_clamp (by omega)]
  exact kk
theorem r500 {v : Int32} (h : inR v (-500) 500) : -500 ≤ v.toInt ∧ v.toInt ≤ 500 := by
  have q := inR_c.mp h
  rw [show (-500 : Int32).toInt = -500 from by decide +kernel, show (500 : Int32).toInt = 500 from by decide +kernel] at q
  exact q
theorem r0 {v hi : Int32} (h : inR v 0 hi) : 0 ≤ v.toInt := by
  have q := inR_c.mp h
  rw [show (0 : Int32).toInt = 0 from by decide +kernel] at q
  exact q.1
theorem pass_ok {i : Nat} {r : Nat → Int32} {g : Nat → Nat → Int32} {v : Int32} (h : Good (BB i) r g) (hv : inR v 1 1440) (hi : i < 512) : Good (BB (i + 1)) (minsR v.toNatClampNeg r) g := by
  have q := (inR_nat hv (by decide +kernel)).2.1
  rw [show (1440 : Int32).toInt = 1440 from by decide +kernel] at q
  exact Good_up (Good_mins h (by unfold BB; omega)) (by unfold BB; omega)
theorem time_ok {i : Nat} {r : Nat → Int32} {g : Nat → Nat → Int32} {v : Int32} (h : Good (BB i) r g) (hv : inR v 0 99999999) (h0 : pdom r = 0) : Good (BB i) (upd (upd (upd r 1 v) 2 0) 5 1) g := by
  have q := inR_c.mp hv
  rw [show (0 : Int32).toInt = 0 from by decide +kernel, show (99999999 : Int32).toInt = 99999999 from by decide +kernel] at q
  exact Good_time h h0 ⟨q.1, Int.le_trans q.2 (BB_t i)⟩
theorem ahead_ok {i : Nat} {r : Nat → Int32} {g : Nat → Nat → Int32} {v : Int32} (h : Good (BB i) r g) (hv : inR v 0 1440) (hi : i < 512) : Good (BB i + 61 * v.toNatClampNeg) (minsR v.toNatClampNeg r) g := by
  have q := (inR_nat hv (by decide +kernel)).2.1
  rw [show (1440 : Int32).toInt = 1440 from by decide +kernel] at q
  exact Good_mins h (by unfold BB; omega)
theorem best_ans {i : Nat} {r : Nat → Int32} {g : Nat → Nat → Int32} {v : Int32} (h : Good (BB i) r g) (hv : inR v 1 600) (hi : i < 512) : (if deadW v r = 0 then bestL v r 500 1 0 else 0) = mB (farv v.toNatClampNeg r) 1000 := by
  have q := inR_nat hv (by decide +kernel)
  rw [show (600 : Int32).toInt = 600 from by decide +kernel] at q
  have e := best_eq (n := v.toNatClampNeg) h.2.2.1 (by unfold BB; omega) (by omega) h.2.2.2.1
  rw [← q.1] at e
  exact e.symm
theorem rs_split {v : Int32} {w : Int64} (h : ¬ (inR v 1 3 → lg_cmp w 0 < 0)) : (v = 1 ∨ v = 2 ∨ v = 3) ∧ ∃ wn : Nat, wn < 2 ^ 63 ∧ w = lN wn := by
  have h1 : inR v 1 3 := Classical.byContradiction fun q => h fun z => absurd z q
  have h2 : ¬ lg_cmp w 0 < 0 := fun q => h fun _ => q
  rw [lg_cmp_lt] at h2
  refine ⟨?_, pk_lOf h2⟩
  have q := inR_c.mp h1
  rw [show (1 : Int32).toInt = 1 from by decide +kernel, show (3 : Int32).toInt = 3 from by decide +kernel] at q
  rcases (show v.toInt = 1 ∨ v.toInt = 2 ∨ v.toInt = 3 by omega) with k | k | k
  · exact Or.inl (Int32.toInt_inj.mp (k.trans (by decide +kernel)))
  · exact Or.inr (Or.inl (Int32.toInt_inj.mp (k.trans (by decide +kernel))))
  · exact Or.inr (Or.inr (Int32.toInt_inj.mp (k.trans (by decide +kernel))))
theorem sm_split {v : Int32} (h : inR v 1 60) : ∃ mm : Nat, 1 ≤ mm ∧ mm ≤ 60 ∧ v = nI mm := by
  have q := inR_nat h (by decide +kernel)
  rw [show (1 : Int32).toInt = 1 from by decide +kernel, show (60 : Int32).toInt = 60 from by decide +kernel] at q
  exact ⟨v.toNatClampNeg, by omega, by omega, q.1⟩
/-- what the law's walk stands on -/
def LC (p : Program) (l : Launch) (s : State) (m : MethodId) (meth : Method) (c : Code) (sb L : Nat) (xs : Nat → Int32) (D : va_G) (ty : Nat → ClassId) (A : Nat → Prop) : Prop :=
  p.tables.exec = Jvm.exec ∧ c.code = cL_law ∧ c.maxLocals = 8 ∧ s.vm.findClass RL = some m.cls ∧ (∀ w ∈ wsL_law, w.before #[Value.ref sb] s = true) ∧ va_X sb L xs s s.heap ∧ sb < s.heap.size ∧ ¬ A sb ∧ (∀ q, s.heap.size ≤ q → A q) ∧ va_K D vwCl (tyL ty) s ∧ CX A s s.heap ∧ l.stackTraces = false ∧ meth.locks = false ∧ L ≤ 2048
def LH (p : Program) (l : Launch) (e : Env) (s : State) (m : MethodId) (below : List Frame) (meth : Method) (c : Code) (sb : Nat) (D : va_G) (ty : Nat → ClassId) (A : Nat → Prop) (Q : State → Prop) (ot bc tx hi sl cod told hs ss sf : Nat) (a d b : Nat → Nat) (bd : Nat → Nat → Nat) (i : Nat) : Prop :=
  ∀ (of : Nat → Int64) (ln cn : Nat) (cd : Nat → Int32) (p9 z1 z2 z3 : Int32) (t9 r : Nat → Int32) (x y : Int64) (g : Nat → Nat → Int32) (r2 : Nat → Int32) (x2 y2 : Int64) (g2 : Nat → Nat → Int32) (ad : Nat → Nat → Nat) (kf : Nat → Int32) (vr : Nat → Nat → Int32) (vx vy : Nat → Int64) (vg : Nat → Nat → Nat → Int32) (ur : Nat → Nat → Int32) (ux uy : Nat → Int64) (ug : Nat → Nat → Nat → Int32) (rf sp : Int32) (rd rt dd kk : Nat → Int32) (xt yt : Int64) (ds ks : Nat → Int64), LI i ln cn r g dd ds ur ux uy ug kf kk ks vr vx vy vg → ∀ (H : Heap) (locs : List Loc), va_P D vwCl (fl [[la ty ot 1 of], [ob bc 8 [.ref tx, .ref (a 0), .ref (d 0), .ref hi, .ref sl]], [ob tx 7 [.ref cod, .int (nI ln), .int p9, .int z1, .int z2, .int z3, .ref told]], [ia ty cod 60 cd], [za ty told 8 t9], (stW ty a r x y g), (stW ty d r2 x2 y2 g2), [ob hi 2 [.ref hs, .int (nI cn)]], [sa ty hs 14 (fun k => some (ad k 0))], [ob sl 3 [.ref ss, .ref sf]], [sa ty ss 2 (fun k => some (bd k 0))], [za ty sf 2 kf], (stW ty (bd 0) (vr 0) (vx 0) (vy 0) (vg 0)), (stW ty (bd 1) (vr 1) (vx 1) (vy 1) (vg 1)), [ob (b 0) 9 [.int rf, .ref (b 1), .int (nI ln), .int sp, .ref (b 2), .ref (b 3), .ref (b 4), .ref (b 5), .int (nI cn), .ref (b 6), .ref (b 7), .ref (b 8), .ref (b 9), .ref (b 10), .ref (b 11)]], [ia ty (b 1) 60 cd], [ia ty (b 2) 57 rd], [ia ty (b 3) 57 r], [ia ty (b 4) 57 rt], [ia ty (b 5) 798 dd], [ia ty (b 6) 114 kk], [za ty (b 7) 2 kf], [la ty (b 8) 2 (tw x y)], [la ty (b 9) 2 (tw xt yt)], [la ty (b 10) 28 ds], [la ty (b 11) 4 ks], (hsW ty ad ur ux uy ug)]) H → va_D A (fl [[la ty ot 1 of], [ob bc 8 [.ref tx, .ref (a 0), .ref (d 0), .ref hi, .ref sl]], [ob tx 7 [.ref cod, .int (nI ln), .int p9, .int z1, .int z2, .int z3, .ref told]], [ia ty cod 60 cd], [za ty told 8 t9], (stW ty a r x y g), (stW ty d r2 x2 y2 g2), [ob hi 2 [.ref hs, .int (nI cn)]], [sa ty hs 14 (fun k => some (ad k 0))], [ob sl 3 [.ref ss, .ref sf]], [sa ty ss 2 (fun k => some (bd k 0))], [za ty sf 2 kf], (stW ty (bd 0) (vr 0) (vx 0) (vy 0) (vg 0)), (stW ty (bd 1) (vr 1) (vx 1) (vy 1) (vg 1)), [ob (b 0) 9 [.int rf, .ref (b 1), .int (nI ln), .int sp, .ref (b 2), .ref (b 3), .ref (b 4), .ref (b 5), .int (nI cn), .ref (b 6), .ref (b 7), .ref (b 8), .ref (b 9), .ref (b 10), .ref (b 11)]], [ia ty (b 1) 60 cd], [ia ty (b 2) 57 rd], [ia ty (b 3) 57 r], [ia ty (b 4) 57 rt], [ia ty (b 5) 798 dd], [ia ty (b 6) 114 kk], [za ty (b 7) 2 kf], [la ty (b 8) 2 (tw x y)], [la ty (b 9) 2 (tw xt yt)], [la ty (b 10) 28 ds], [la ty (b 11) 4 ks], (hsW ty ad ur ux uy ug)]) → va_S A s.heap H locs → ∀ ls : Array Slot, lv_has ls 8 [(4, .int (nI (4 * i))), (0, .ref sb), (1, .ref bc), (2, .ref (b 0)), (3, .ref ot)] → W p l e room_1 s m #[Value.ref sb] below meth c H locs (292 + 3 * i) (2595 + 18 * i) Q (F0 m 23 ls [])
