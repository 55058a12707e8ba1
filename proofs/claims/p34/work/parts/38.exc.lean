/-! methods that return or throw (no handlers of their own): the world is as it was when they throw -/
abbrev ExcB (D : va_G) (bs : List va_W) (px : String → Prop) (A : Nat → Prop) : String → Unit → State → Prop := fun E _ t => px E ∧ va_P D vwCl (fl bs) t.heap ∧ va_D A (fl bs)
abbrev ExcX (D : va_G) (bs : List va_W) (px : String → Prop) (A : Nat → Prop) : String → State → State → Prop := vx_X (fun (_ : Unit) => True) (ExcB D bs px A) A
def CXi {S : Type} (l : Launch) (y : MethodName) (w : List Cond) (rm : Room) (D : va_G) (ty : Nat → ClassId) (av : List Value) (bs bx : List va_W) (post : Int32 → S → Prop) (bs' : S → List va_W) (px : String → Prop) : Prop :=
  ∀ sz, vx_Met l y w rm (va_Pc av (PreW D ty bs sz)) (va_Qi post (PostW D bs' (va_A (fl bs) sz)) (va_A (fl bs) sz)) (ExcX D bx px (va_A (fl bs) sz)) rm.cells rm.slots (va_A (fl bs) sz)
def CXl {S : Type} (l : Launch) (y : MethodName) (w : List Cond) (rm : Room) (D : va_G) (ty : Nat → ClassId) (av : List Value) (bs bx : List va_W) (post : Int64 → S → Prop) (bs' : S → List va_W) (px : String → Prop) : Prop :=
  ∀ sz, vx_Met l y w rm (va_Pc av (PreW D ty bs sz)) (va_Ql post (PostW D bs' (va_A (fl bs) sz)) (va_A (fl bs) sz)) (ExcX D bx px (va_A (fl bs) sz)) rm.cells rm.slots (va_A (fl bs) sz)
def CXv {S : Type} (l : Launch) (y : MethodName) (w : List Cond) (rm : Room) (D : va_G) (ty : Nat → ClassId) (av : List Value) (bs bx : List va_W) (post : S → Prop) (bs' : S → List va_W) (px : String → Prop) : Prop :=
  ∀ sz, vx_Met l y w rm (va_Pc av (PreW D ty bs sz)) (va_Qv post (PostW D bs' (va_A (fl bs) sz)) (va_A (fl bs) sz)) (ExcX D bx px (va_A (fl bs) sz)) rm.cells rm.slots (va_A (fl bs) sz)
section XD
variable {l : Launch} {y : MethodName} {w w' : List Cond} {rm : Room} {D : va_G} {ty : Nat → ClassId} {av : List Value} {bs bx : List va_W} {S : Type}
abbrev BodyX (l : Launch) (y : MethodName) (w : List Cond) (rm : Room) (D : va_G) (ty : Nat → ClassId) (av : List Value) (bs bx : List va_W) (cc : ByteArray) (maxL : Nat) (ret : Option FieldType) (Qx : (Nat → Prop) → Array Value → State → Outcome → State → Prop) (px : String → Prop) : Prop :=
  ∀ (p : Program) (e : Env) (s : State) (m : MethodId) (args : Array Value) (below : List Frame) (meth : Method) (c : Code) (A : Nat → Prop), p.tables.exec = Jvm.exec → c.code = cc → meth.sig.returnType = ret → c.maxLocals = maxL → s.vm.findClass y.cls = some m.cls → meth.locks = false → meth.name = y.name → (∀ z ∈ w, z.before args s = true) → (∀ q, s.heap.size ≤ q → A q) → CX A s s.heap → va_K D vwCl (tyL ty) s → va_P D vwCl (fl bs) s.heap → va_D A (fl bs) → (∀ z ∈ c.exceptionTable.toList, False) → ∀ ls : Array Slot, lv_has ls maxL (lv_args 0 av) →
    W p l e rm s m args below meth c s.heap [] 0 0 (vx_MQ below (Qx A) (ExcX D bx px A) args s rm.cells rm.slots A) (F0 m 0 ls [])
theorem xmet_of {cc : ByteArray} {maxL : Nat} {ret : Option FieldType} {Qx : (Nat → Prop) → Array Value → State → Outcome → State → Prop} {px : String → Prop} (hy : plainName y.cls = true) (hw : w = Cond.code y cc maxL ret :: w') (hfit : (lg_sl av).length ≤ maxL) (body : BodyX l y w rm D ty av bs bx cc maxL ret Qx px) :
    ∀ sz, vx_Met l y w rm (va_Pc av (PreW D ty bs sz)) (Qx (va_A (fl bs) sz)) (ExcX D bx px (va_A (fl bs) sz)) rm.cells rm.slots (va_A (fl bs) sz) := by
  intro sz
  refine vx_ofW (cc := cc) (maxL := maxL) (ret := ret) hy hw ?_
  intro p e s m args below meth c s₁ B hml ht0 hv
  obtain ⟨rfl, hsz, hP, hK, hD0, hX⟩ := hv
  subst hsz
  have hD := hD0.self (sz := s.heap.size)
  have hl := lv_entry av hfit
  rw [lg_entry_eq]
  exact body p e s m av.toArray below meth c _ B.exec B.bytes B.returns hml (findClass_of_methodNamed B.named) B.notSynchronized (name_of_methodNamed B.named B.method).1 (atoms_spec (ws := w) B.pre) (fun q h => Or.inr h) hX hK hP hD ht0 _ hl
theorem CXi_of {post : Int32 → S → Prop} {bs' : S → List va_W} {px : String → Prop} (cc : ByteArray) (maxL : Nat) (ret : Option FieldType) (hy : plainName y.cls = true) (hw : w = Cond.code y cc maxL ret :: w') (hfit : (lg_sl av).length ≤ maxL) (body : BodyX l y w rm D ty av bs bx cc maxL ret (fun A => va_Qi post (PostW D bs' A) A) px) : CXi l y w rm D ty av bs bx post bs' px := xmet_of (Qx := fun A => va_Qi post (PostW D bs' A) A) hy hw hfit body
theorem CXl_of {post : Int64 → S → Prop} {bs' : S → List va_W} {px : String → Prop} (cc : ByteArray) (maxL : Nat) (ret : Option FieldType) (hy : plainName y.cls = true) (hw : w = Cond.code y cc maxL ret :: w') (hfit : (lg_sl av).length ≤ maxL) (body : BodyX l y w rm D ty av bs bx cc maxL ret (fun A => va_Ql post (PostW D bs' A) A) px) : CXl l y w rm D ty av bs bx post bs' px := xmet_of (Qx := fun A => va_Ql post (PostW D bs' A) A) hy hw hfit body
theorem CXv_of {post : S → Prop} {bs' : S → List va_W} {px : String → Prop} (cc : ByteArray) (maxL : Nat) (ret : Option FieldType) (hy : plainName y.cls = true) (hw : w = Cond.code y cc maxL ret :: w') (hfit : (lg_sl av).length ≤ maxL) (body : BodyX l y w rm D ty av bs bx cc maxL ret (fun A => va_Qv post (PostW D bs' A) A) px) : CXv l y w rm D ty av bs bx post bs' px := xmet_of (Qx := fun A => va_Qv post (PostW D bs' A) A) hy hw hfit body
end XD
section XE
variable {p : Program} {l : Launch} {e : Env} {R : Room} {s : State} {m : MethodId} {args : Array Value} {below : List Frame} {meth : Method} {c : Code} {H : Heap} {locs : List Loc} {cells slots mc ms : Nat}
variable {cc : ByteArray} {pc : Nat} {ls : Array Slot} {rest : List Value} {D : va_G} {ty : Nat → ClassId} {A : Nat → Prop} {bs : List va_W} {px : String → Prop} {Qc : Array Value → State → Outcome → State → Prop}
/-- what a throw here leaves behind -/
theorem exc_at {E : String} (hE : px E) (hP : va_P D vwCl (fl bs) H) (hD : va_D A (fl bs)) (hS : va_S A s.heap H locs) (t : State) (hz : H.size ≤ t.heap.size) (hk : ∀ q : Nat, q < H.size → t.heap[q]? = H[q]?) : ExcX D bs px A E s t := by
  refine ⟨(), trivial, ⟨hE, hP.kept (fun k q hq => hk q.1 (hP k q hq).lt), hD⟩, Nat.le_trans hS.1 hz, fun q h1 h2 => ?_⟩
  rw [hk q (Nat.lt_of_lt_of_le h1 hS.1)]
  exact hS.2.1 q h1 h2
/-- a call of a thrower with a world of none -/
theorem cSxv {y : MethodName} {w Ts : List Cond} {rm : Room} {bytes : ByteArray} {maxL nL index n : Nat} {own : String} {As st : List Value} {postU : Unit → Prop} {pxc : String → Prop} (F : CallFix p m c cc nL s args Ts own) (hM : CXv l y w rm D ty As [] [] postU (fun _ => []) pxc) (cw : CallB R s args own index y bytes maxL none w rm rm.cells rm.slots n ∧ (Cond.static y).before args s = true)
    (hK : va_K D vwCl (tyL ty) s) (hX : CX A s s.heap) (hP : va_P D vwCl (fl bs) H) (hD : va_D A (fl bs)) (hS : va_S A s.heap H locs) (hA : ∀ q, s.heap.size ≤ q → A q)
    (hn : As.length = n) (hl : ls.size = nL) (hst : st = As.reverse ++ rest) (hW : (rest.map fun v => v.category).sum ≤ 8) (hdg : decode cc pc = .ok (.invokestatic index, 3)) (hf : cells + rm.cells ≤ R.cells ∧ slots + rm.slots ≤ R.slots)
    (hlocks : meth.locks = false) (ht0 : ∀ z ∈ c.exceptionTable.toList, False) (hmc : cells + rm.cells ≤ mc) (hms : slots + rm.slots ≤ ms) (hpx : ∀ E, pxc E → px E)
    (kk : postU () → ∀ (H1 : Heap) (locs1 : List Loc), va_P D vwCl (fl bs) H1 → va_D A (fl bs) → va_S A s.heap H1 locs1 → W p l e R s m args below meth c H1 locs1 (cells + rm.cells) (slots + rm.slots) (vx_MQ below Qc (ExcX D bs px A) args s mc ms A) (F0 m (pc + 3) ls rest)) : W p l e R s m args below meth c H locs cells slots (vx_MQ below Qc (ExcX D bs px A) args s mc ms A) (F0 m pc ls st) := by
  have hpk : (fl bs).Perm (fl [] ++ fl bs) := List.Perm.refl _
  obtain ⟨hF, hpre⟩ := pre_cut (av := As) (bsc := []) (bsr := bs) hK hX hP hD hS hA hpk
  refine vx_callv (vx_runS (As := As) (rest := rest) F (hM H.size) cw ⟨PreW_blind, hpre⟩ rfl hn hl hst (lv_room hW) hdg hf) hS (fun q _ h => hF q h) hF (fun q _ h => hF q h) (fun E ce q9 u t H1 locs1 ht hvm hu hB hz1 hk1 hS1 hce hcv hcl => ?_) (fun u t H1 locs1 ht hvm hw hB hz1 hk1 hS1 => ?_)
  · obtain ⟨hE, hP1, hD1⟩ := hB
    rw [ht] at hP1
    obtain ⟨hP2, hD2⟩ := post_join hP hD hpk hF hk1 hP1 hD1
    refine vx_out (fun z hz => (ht0 z hz).elim) hlocks hce hcv hcl (fun t2 ht2 hv2 => ?_) hS1.2.2 hmc hms
    refine exc_at (H := H1) (locs := locs1) (hpx E hE) hP2 hD2 hS1 t2 (by rw [ht2]; exact Nat.le_refl _) (fun q _ => by rw [ht2])
  · obtain ⟨hP1, hD1⟩ := hB
    rw [ht] at hP1
    obtain ⟨hP2, hD2⟩ := post_join hP hD hpk hF hk1 hP1 hD1
    exact kk hw H1 locs1 hP2 hD2 hS1
end XE
abbrev excN : List String := ["java/lang/RuntimeException", "java/lang/Exception"]
/-- the words of a throw that only the tables decide -/
def exD (E : String) : List Cond := [.castable E E, .declares (Bundle.initS "java/lang/RuntimeException"), .declares (Bundle.initS "java/lang/Exception"), .declares (Bundle.initS Bundle.tN)]
theorem exD_of {E : String} {args : Array Value} {U : State} (h : CW U) (hc : va_Nw (.castable E E) U) : ∀ w ∈ exD E, w.before args U = true := by
  obtain ⟨-, -, -, ⟨-, g1, g2, g3⟩, -⟩ := h
  exact vx_c (va_Nw.use rfl hc) (vx_c (va_Nw.use rfl g1) (vx_c (va_Nw.use rfl g2) (vx_c (va_Nw.use rfl g3) vx_n)))
section XF
variable {p : Program} {l : Launch} {e : Env} {R : Room} {s : State} {m : MethodId} {args : Array Value} {below : List Frame} {meth : Method} {c : Code} {H : Heap} {locs : List Loc} {cells slots mc ms : Nat}
variable {cc : ByteArray} {pc : Nat} {ls : Array Slot} {rest : List Value} {D : va_G} {ty : Nat → ClassId} {A : Nat → Prop} {bs bsc bsr : List va_W} {px : String → Prop} {Qc : Array Value → State → Outcome → State → Prop}
theorem cVxv {y : MethodName} {w Ts : List Cond} {rm : Room} {bytes : ByteArray} {maxL nL index n : Nat} {own C : String} {b : Nat} {As st : List Value} {postU : Unit → Prop} {pxc : String → Prop} (F : CallFix p m c cc nL s args Ts own) (hM : CXv l y w rm D ty (.ref b :: As) bsc bsc postU (fun _ => bsc) pxc) (cw : CallW R s args own C index y bytes maxL none w rm rm.cells rm.slots n)
    (hK : va_K D vwCl (tyL ty) s) (hX : CX A s s.heap) (hP : va_P D vwCl (fl bs) H) (hD : va_D A (fl bs)) (hS : va_S A s.heap H locs) (hA : ∀ q, s.heap.size ≤ q → A q) (hpk : (fl bs).Perm (fl bsc ++ fl bsr)) {ci : Nat} {T : u_T} {N : Nat} {fs : List Value} (hc : vwCl[ci]? = some (C, T, N)) (q0 : Nat) (he : (fl bsc)[q0]? = some (b, .inr (ci, fs)))
    (hn : As.length = n) (hl : ls.size = nL) (hst : st = As.reverse ++ .ref b :: rest) (hW : (rest.map fun v => v.category).sum ≤ 8) (hdg : decode cc pc = .ok (.invokevirtual index, 3)) (hf : cells + rm.cells ≤ R.cells ∧ slots + rm.slots ≤ R.slots)
    (hlocks : meth.locks = false) (ht0 : ∀ z ∈ c.exceptionTable.toList, False) (hmc : cells + rm.cells ≤ mc) (hms : slots + rm.slots ≤ ms) (hpx : ∀ E, pxc E → px E)
    (kk : postU () → ∀ (H1 : Heap) (locs1 : List Loc), va_P D vwCl (fl bs) H1 → va_D A (fl bs) → va_S A s.heap H1 locs1 → W p l e R s m args below meth c H1 locs1 (cells + rm.cells) (slots + rm.slots) (vx_MQ below Qc (ExcX D bs px A) args s mc ms A) (F0 m (pc + 3) ls rest)) : W p l e R s m args below meth c H locs cells slots (vx_MQ below Qc (ExcX D bs px A) args s mc ms A) (F0 m pc ls st) := by
  obtain ⟨hF, hpre⟩ := pre_cut (av := .ref b :: As) hK hX hP hD hS hA hpk
  refine vx_callv (vx_runV (As := As) (rest := rest) F (hM H.size) cw ⟨PreW_blind, va_recv hK (P_left (P_perm hpk hP)) hc he, hpre⟩ rfl hn hl hst (lv_room hW) hdg hf) hS (fun q _ h => hF q h) hF (fun q _ h => hF q h) (fun E ce q9 u t H1 locs1 ht hvm hu hB hz1 hk1 hS1 hce hcv hcl => ?_) (fun u t H1 locs1 ht hvm hw hB hz1 hk1 hS1 => ?_)
  · obtain ⟨hE, hP1, hD1⟩ := hB
    rw [ht] at hP1
    obtain ⟨hP2, hD2⟩ := post_join hP hD hpk hF hk1 hP1 hD1
    refine vx_out (fun z hz => (ht0 z hz).elim) hlocks hce hcv hcl (fun t2 ht2 hv2 => ?_) hS1.2.2 hmc hms
    refine exc_at (H := H1) (locs := locs1) (hpx E hE) (P_perm hpk.symm hP2) (D_perm hpk.symm hD2) hS1 t2 (by rw [ht2]; exact Nat.le_refl _) (fun q _ => by rw [ht2])
  · obtain ⟨hP1, hD1⟩ := hB
    rw [ht] at hP1
    obtain ⟨hP2, hD2⟩ := post_join hP hD hpk hF hk1 hP1 hD1
    exact kk hw H1 locs1 (P_perm hpk.symm hP2) (D_perm hpk.symm hD2) hS1
end XF
