/-! answers by the question, where it is a number; a law that reads its script -/
theorem tell_0 (r : Nat → Int32) : ptell r 0 = r 0 := rfl
theorem tell_1 (r : Nat → Int32) : ptell r 1 = r 1 := rfl
theorem tell_2 (r : Nat → Int32) : ptell r 2 = r 2 := rfl
theorem tell_3 (r : Nat → Int32) : ptell r 3 = r 3 := rfl
theorem tell_4 (r : Nat → Int32) : ptell r 4 = r 4 := rfl
theorem tell_5 (r : Nat → Int32) : ptell r 5 = poff r := rfl
theorem tell_6 (r : Nat → Int32) : ptell r 6 = bz (r 5) := rfl
theorem tell_7 (r : Nat → Int32) : ptell r 7 = r 6 := rfl
theorem tell_8 (r : Nat → Int32) : ptell r 8 = r 7 := rfl
theorem tell_9 (r : Nat → Int32) : ptell r 9 = pdom r := rfl
theorem tell_10 (r : Nat → Int32) : ptell r 10 = r 11 := rfl
theorem tell_11 (r : Nat → Int32) : ptell r 11 = r 8 := rfl
theorem tell_12 (r : Nat → Int32) : ptell r 12 = ringN r := rfl
theorem tell_13 (r : Nat → Int32) : ptell r 13 = waitN r := rfl
theorem tell_14 (r : Nat → Int32) : ptell r 14 = r 10 := rfl
theorem ahead_0 {m : Nat} (r : Nat → Int32) (h : m < 2 ^ 31) : ptell (minsR (nI m).toNatClampNeg r) (ahd (Int32.toNatClampNeg 0)) = (minsR m r) 1 := by rw [nI_clamp h]; rfl
theorem ahead0_0 (r : Nat → Int32) : ptell (minsR (Int32.toNatClampNeg 0) r) (ahd (Int32.toNatClampNeg 0)) = r 1 := rfl
theorem ahead_1 {m : Nat} (r : Nat → Int32) (h : m < 2 ^ 31) : ptell (minsR (nI m).toNatClampNeg r) (ahd (Int32.toNatClampNeg 1)) = (minsR m r) 2 := by rw [nI_clamp h]; rfl
theorem ahead0_1 (r : Nat → Int32) : ptell (minsR (Int32.toNatClampNeg 0) r) (ahd (Int32.toNatClampNeg 1)) = r 2 := rfl
theorem ahead_2 {m : Nat} (r : Nat → Int32) (h : m < 2 ^ 31) : ptell (minsR (nI m).toNatClampNeg r) (ahd (Int32.toNatClampNeg 2)) = poff (minsR m r) := by rw [nI_clamp h]; rfl
theorem ahead0_2 (r : Nat → Int32) : ptell (minsR (Int32.toNatClampNeg 0) r) (ahd (Int32.toNatClampNeg 2)) = poff r := rfl
theorem ahead_3 {m : Nat} (r : Nat → Int32) (h : m < 2 ^ 31) : ptell (minsR (nI m).toNatClampNeg r) (ahd (Int32.toNatClampNeg 3)) = (minsR m r) 7 := by rw [nI_clamp h]; rfl
theorem ahead0_3 (r : Nat → Int32) : ptell (minsR (Int32.toNatClampNeg 0) r) (ahd (Int32.toNatClampNeg 3)) = r 7 := rfl
theorem ahead_4 {m : Nat} (r : Nat → Int32) (h : m < 2 ^ 31) : ptell (minsR (nI m).toNatClampNeg r) (ahd (Int32.toNatClampNeg 4)) = pdom (minsR m r) := by rw [nI_clamp h]; rfl
theorem ahead0_4 (r : Nat → Int32) : ptell (minsR (Int32.toNatClampNeg 0) r) (ahd (Int32.toNatClampNeg 4)) = pdom r := rfl
theorem ahead_5 {m : Nat} (r : Nat → Int32) (h : m < 2 ^ 31) : ptell (minsR (nI m).toNatClampNeg r) (ahd (Int32.toNatClampNeg 5)) = ringN (minsR m r) := by rw [nI_clamp h]; rfl
theorem ahead0_5 (r : Nat → Int32) : ptell (minsR (Int32.toNatClampNeg 0) r) (ahd (Int32.toNatClampNeg 5)) = ringN r := rfl
theorem pass1 (r : Nat → Int32) : minsR (Int32.toNatClampNeg 1) r 1 = pminute r 1 := rfl
theorem acc_0 (r : Nat → Int32) (x y : Int64) : (if (0 : Int32) < 4 then Int32.toInt64 (r (12 + Int32.toNatClampNeg 0)) else if (0 : Int32) = 4 then x else y) = Int32.toInt64 (r 12) := rfl
theorem acc_1 (r : Nat → Int32) (x y : Int64) : (if (1 : Int32) < 4 then Int32.toInt64 (r (12 + Int32.toNatClampNeg 1)) else if (1 : Int32) = 4 then x else y) = Int32.toInt64 (r 13) := rfl
theorem acc_2 (r : Nat → Int32) (x y : Int64) : (if (2 : Int32) < 4 then Int32.toInt64 (r (12 + Int32.toNatClampNeg 2)) else if (2 : Int32) = 4 then x else y) = Int32.toInt64 (r 14) := rfl
theorem acc_3 (r : Nat → Int32) (x y : Int64) : (if (3 : Int32) < 4 then Int32.toInt64 (r (12 + Int32.toNatClampNeg 3)) else if (3 : Int32) = 4 then x else y) = Int32.toInt64 (r 15) := rfl
theorem acc_4 (r : Nat → Int32) (x y : Int64) : (if (4 : Int32) < 4 then Int32.toInt64 (r (12 + Int32.toNatClampNeg 4)) else if (4 : Int32) = 4 then x else y) = x := rfl
theorem acc_5 (r : Nat → Int32) (x y : Int64) : (if (5 : Int32) < 4 then Int32.toInt64 (r (12 + Int32.toNatClampNeg 5)) else if (5 : Int32) = 4 then x else y) = y := rfl
theorem alN_0 {i : Nat} (r : Nat → Int32) (h : i < 2 ^ 31) : (if (0 : Int32) = 0 then r (27 + 3 * (nI i).toNatClampNeg) else if (0 : Int32) = 1 then bz (r (28 + 3 * (nI i).toNatClampNeg)) else r (29 + 3 * (nI i).toNatClampNeg)) = r (27 + 3 * i) := by rw [nI_clamp h]; rfl
theorem al_0 (r : Nat → Int32) (i : Int32) : (if (0 : Int32) = 0 then r (27 + 3 * i.toNatClampNeg) else if (0 : Int32) = 1 then bz (r (28 + 3 * i.toNatClampNeg)) else r (29 + 3 * i.toNatClampNeg)) = r (27 + 3 * i.toNatClampNeg) := rfl
theorem trN_0 {i : Nat} (g : Nat → Nat → Int32) (h : i < 2 ^ 31) : (if (0 : Int32) = 0 then g 0 (nI i).toNatClampNeg else if (0 : Int32) = 1 then g 1 (nI i).toNatClampNeg else g 2 (nI i).toNatClampNeg) = g 0 i := by rw [nI_clamp h]; rfl
theorem tr_0 (g : Nat → Nat → Int32) (i : Int32) : (if (0 : Int32) = 0 then g 0 i.toNatClampNeg else if (0 : Int32) = 1 then g 1 i.toNatClampNeg else g 2 i.toNatClampNeg) = g 0 i.toNatClampNeg := rfl
theorem alN_1 {i : Nat} (r : Nat → Int32) (h : i < 2 ^ 31) : (if (1 : Int32) = 0 then r (27 + 3 * (nI i).toNatClampNeg) else if (1 : Int32) = 1 then bz (r (28 + 3 * (nI i).toNatClampNeg)) else r (29 + 3 * (nI i).toNatClampNeg)) = bz (r (28 + 3 * i)) := by rw [nI_clamp h]; rfl
theorem al_1 (r : Nat → Int32) (i : Int32) : (if (1 : Int32) = 0 then r (27 + 3 * i.toNatClampNeg) else if (1 : Int32) = 1 then bz (r (28 + 3 * i.toNatClampNeg)) else r (29 + 3 * i.toNatClampNeg)) = bz (r (28 + 3 * i.toNatClampNeg)) := rfl
theorem trN_1 {i : Nat} (g : Nat → Nat → Int32) (h : i < 2 ^ 31) : (if (1 : Int32) = 0 then g 0 (nI i).toNatClampNeg else if (1 : Int32) = 1 then g 1 (nI i).toNatClampNeg else g 2 (nI i).toNatClampNeg) = g 1 i := by rw [nI_clamp h]; rfl
theorem tr_1 (g : Nat → Nat → Int32) (i : Int32) : (if (1 : Int32) = 0 then g 0 i.toNatClampNeg else if (1 : Int32) = 1 then g 1 i.toNatClampNeg else g 2 i.toNatClampNeg) = g 1 i.toNatClampNeg := rfl
theorem alN_2 {i : Nat} (r : Nat → Int32) (h : i < 2 ^ 31) : (if (2 : Int32) = 0 then r (27 + 3 * (nI i).toNatClampNeg) else if (2 : Int32) = 1 then bz (r (28 + 3 * (nI i).toNatClampNeg)) else r (29 + 3 * (nI i).toNatClampNeg)) = r (29 + 3 * i) := by rw [nI_clamp h]; rfl
theorem al_2 (r : Nat → Int32) (i : Int32) : (if (2 : Int32) = 0 then r (27 + 3 * i.toNatClampNeg) else if (2 : Int32) = 1 then bz (r (28 + 3 * i.toNatClampNeg)) else r (29 + 3 * i.toNatClampNeg)) = r (29 + 3 * i.toNatClampNeg) := rfl
theorem trN_2 {i : Nat} (g : Nat → Nat → Int32) (h : i < 2 ^ 31) : (if (2 : Int32) = 0 then g 0 (nI i).toNatClampNeg else if (2 : Int32) = 1 then g 1 (nI i).toNatClampNeg else g 2 (nI i).toNatClampNeg) = g 2 i := by rw [nI_clamp h]; rfl
theorem tr_2 (g : Nat → Nat → Int32) (i : Int32) : (if (2 : Int32) = 0 then g 0 i.toNatClampNeg else if (2 : Int32) = 1 then g 1 i.toNatClampNeg else g 2 i.toNatClampNeg) = g 2 i.toNatClampNeg := rfl
theorem and31 (x : Int32) : ∃ n, n < 2 ^ 31 ∧ x &&& 2147483647 = nI n := by
  have e : x = nI x.toBitVec.toNat := Int32.toBitVec_inj.mp (by
    show x.toBitVec = (Int32.ofNat x.toBitVec.toNat).toBitVec
    rw [Int32.toBitVec_ofNat', BitVec.ofNat_toNat]
    simp)
  refine ⟨x.toBitVec.toNat % 2 ^ 31, Nat.mod_lt _ (by decide), ?_⟩
  exact (congrArg (fun z => z &&& (2147483647 : Int32)) e).trans (fa_mask _ 31)
theorem noteH_le {pC : CPg} {hC : CHs} (h : hC.1 ≤ 14) : (noteH pC hC).1 ≤ 14 := remC_le h
/-! contracts with the script's array as a premise -/
abbrev Scr (sb L : Nat) (xs : Nat → Int32) (A : Nat → Prop) (U : State) (H : Heap) : Prop := va_T .int sb L (fun j => .int (xs j)) A U H
def PreT (D : va_G) (ty : Nat → ClassId) (sb L : Nat) (xs : Nat → Int32) (bs : List va_W) (sz : Nat) (U : State) : Prop := PreW D ty bs sz U ∧ Scr sb L xs (va_A (fl bs) sz) U U.heap
def CSi {S : Type} (l : Launch) (y : MethodName) (w : List Cond) (rm : Room) (D : va_G) (ty : Nat → ClassId) (sb L : Nat) (xs : Nat → Int32) (av : List Value) (bs : List va_W) (post : Int32 → S → Prop) (bs' : S → List va_W) : Prop :=
  ∀ sz, Met l y w rm (va_Pc av (PreT D ty sb L xs bs sz)) (va_Qi post (PostW D bs' (va_A (fl bs) sz)) (va_A (fl bs) sz)) rm.cells rm.slots (va_A (fl bs) sz)
theorem PreT_blind {D : va_G} {ty : Nat → ClassId} {sb L : Nat} {xs : Nat → Int32} {av : List Value} {bs : List va_W} {sz : Nat} : FrameBlind (va_Pc av (PreT D ty sb L xs bs sz)) := by
  intro a U g mk q
  obtain ⟨q0, q1, q2⟩ := q
  exact ⟨q0, (PreW_blind (av := av) a U g mk ⟨q0, q1⟩).2, va_T.moved (u := U) (U := U.calling g mk a) (Vm.Alike.refl U.vm) q2⟩
section KT2
variable {l : Launch} {y : MethodName} {w w' : List Cond} {rm : Room} {D : va_G} {ty : Nat → ClassId} {sb L : Nat} {xs : Nat → Int32} {av : List Value} {bs : List va_W} {S : Type}
theorem CSi_of {post : Int32 → S → Prop} {bs' : S → List va_W} (cc : ByteArray) (maxL : Nat) (ret : Option FieldType) (hy : plainName y.cls = true) (hw : w = Cond.code y cc maxL ret :: w') (hfit : (lg_sl av).length ≤ maxL)
    (body : ∀ (p : Program) (e : Env) (s : State) (m : MethodId) (args : Array Value) (below : List Frame) (meth : Method) (c : Code) (A : Nat → Prop), p.tables.exec = Jvm.exec → c.code = cc → meth.sig.returnType = ret → c.maxLocals = maxL → s.vm.findClass y.cls = some m.cls → meth.locks = false → meth.name = y.name → (∀ z ∈ w, z.before args s = true) → (∀ q, s.heap.size ≤ q → A q) → CX A s s.heap → va_K D vwCl (tyL ty) s → va_P D vwCl (fl bs) s.heap → va_D A (fl bs) → Scr sb L xs A s s.heap → ∀ ls : Array Slot, lv_has ls maxL (lv_args 0 av) →
      W p l e rm s m args below meth c s.heap [] 0 0 (MQ below (va_Qi post (PostW D bs' A) A) args s rm.cells rm.slots A) (F0 m 0 ls [])) : CSi l y w rm D ty sb L xs av bs post bs' := by
  intro sz
  refine Met.ofW (cc := cc) (maxL := maxL) (ret := ret) hy hw ?_
  intro p e s m args below meth c s₁ B hml hv
  obtain ⟨rfl, ⟨hsz, hP, hK, hD0, hX⟩, hT⟩ := hv
  subst hsz
  have hD := hD0.self (sz := s.heap.size)
  have hl := lv_entry av hfit
  rw [lg_entry_eq]
  exact body p e s m av.toArray below meth c _ B.exec B.bytes B.returns hml (findClass_of_methodNamed B.named) B.notSynchronized (name_of_methodNamed B.named B.method).1 (atoms_spec (ws := w) B.pre) (fun q h => Or.inr h) hX hK hP hD hT _ hl
end KT2
section KT3
variable {p : Program} {l : Launch} {e : Env} {R : Room} {s : State} {m : MethodId} {args : Array Value} {below : List Frame} {meth : Method} {c : Code} {H : Heap} {locs : List Loc} {cells slots : Nat} {Q : State → Prop}
variable {cc : ByteArray} {pc : Nat} {ls : Array Slot} {rest : List Value} {D : va_G} {ty : Nat → ClassId} {A : Nat → Prop} {bs bsc bsr : List va_W}
variable {y : MethodName} {w Ts : List Cond} {rm : Room} {bytes : ByteArray} {maxL nL index n : Nat} {ret : Option FieldType} {own : String} {As st : List Value} {sb L : Nat} {xs : Nat → Int32}
theorem cTi {S : Type} {post : Int32 → S → Prop} {bs' : S → List va_W} (F : CallFix p m c cc nL s args Ts own) (hM : CSi l y w rm D ty sb L xs As bsc post bs') (cw : CallB R s args own index y bytes maxL ret w rm rm.cells rm.slots n ∧ (Cond.static y).before args s = true)
    (hK : va_K D vwCl (tyL ty) s) (hX : CX A s s.heap) (hT : Scr sb L xs A s s.heap) (hP : va_P D vwCl (fl bs) H) (hD : va_D A (fl bs)) (hS : va_S A s.heap H locs) (hA : ∀ q, s.heap.size ≤ q → A q) (hpk : (fl bs).Perm (fl bsc ++ fl bsr))
    (hn : As.length = n) (hl : ls.size = nL) (hst : st = As.reverse ++ rest) (hW : (rest.map fun v => v.category).sum ≤ 8) (hdg : decode cc pc = .ok (.invokestatic index, 3)) (hf : cells + rm.cells ≤ R.cells ∧ slots + rm.slots ≤ R.slots)
    (kk : ∀ (r : Int32) (u : S), post r u → ∀ (H1 : Heap) (locs1 : List Loc), va_P D vwCl (fl (bs' u ++ bsr)) H1 → va_D A (fl (bs' u ++ bsr)) → va_S A s.heap H1 locs1 → W p l e R s m args below meth c H1 locs1 (cells + rm.cells) (slots + rm.slots) Q (F0 m (pc + 3) ls (.int r :: rest))) : W p l e R s m args below meth c H locs cells slots Q (F0 m pc ls st) := by
  obtain ⟨hF, hpre⟩ := pre_cut (av := As) hK hX hP hD hS hA hpk
  have hpre2 : ∀ U : State, U.heap = H → s.WarmedH U.vm → va_Pc As (PreT D ty sb L xs bsc H.size) As.toArray U := fun U hU hW => ⟨rfl, (hpre U hU hW).2, by
    rw [hU]
    exact va_T.moved hW.alike (va_T.narrow (va_T.kept hT hS.2.1) hF)⟩
  refine va_calli (va_runS (As := As) (rest := rest) F (hM H.size) cw ⟨PreT_blind, hpre2⟩ rfl hn hl hst (lv_room hW) hdg hf) hS (fun q _ h => hF q h) hF (fun r u t H1 locs1 ht hvm hw hB hz1 hk1 hS1 => ?_)
  obtain ⟨hP1, hD1⟩ := hB
  rw [ht] at hP1
  obtain ⟨hP2, hD2⟩ := post_join hP hD hpk hF hk1 hP1 hD1
  rw [← fl_app] at hP2 hD2
  exact kk r u hw H1 locs1 hP2 hD2 hS1
end KT3
