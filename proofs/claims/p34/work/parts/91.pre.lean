/-! the law's wrappers: methods with a table of handlers, whose callee returns or throws -/
theorem MetH_of {l : Launch} {y : MethodName} {ws ws' : List Cond} {rm : Room} {Pc : Array Value → State → Prop} {Qc : Array Value → State → Outcome → State → Prop} {mc ms : Nat} {free : Addr → Prop} {cc : ByteArray} {maxL : Nat} {ret : Option FieldType} {hh : List (Nat × Nat × Nat × Nat)}
    (hy : plainName y.cls = true) (hw : ws = Cond.codeWith y cc maxL ret hh :: ws')
    (body : ∀ p e s m args below meth c s₁, BodyLoose p l y (headSpec ws rm) cc maxL ret e s m args below meth c s₁ → c.maxLocals = maxL → c.exceptionTable.toList = tableOf hh → Pc args s →
      W p l e (headSpec ws rm).room s m args below meth c s.heap [] 0 0 (MQ below Qc args s mc ms free) (entryFrame m args maxL)) : Met l y ws rm Pc Qc mc ms free := by
  refine MetFree.of_bodyS (code := cc) (maxLocals := maxL) (ret := ret) hy ?_ ?_
  · intro args s m h hn
    obtain ⟨m9, meth, c, hn9, h1, h2, h3, h4, -, h5, h6, -⟩ := Cond.codeWith_spec (atoms_spec (ws := ws) h _ (by rw [hw]; exact List.mem_cons_self))
    cases hn.symm.trans hn9
    exact ⟨meth, c, h1, h2, h3, h4, h5, h6⟩
  · intro p e s m args below meth c s₁ B hml hP _
    have hh0 : s₁.heap = s.heap := by rw [B.state]; rfl
    have ht := vx_table (x := y) B (atoms_spec (ws := ws) B.pre _ (by rw [hw]; exact List.mem_cons_self))
    obtain ⟨t, a1, o, b1, b2, b3⟩ := body p e s m args below meth c s₁ B hml ht hP s₁ hh0 (Stand.of_body B)
    exact ⟨t, o, a1, b1, b2, b3⟩
section HD
variable {l : Launch} {y : MethodName} {w w' : List Cond} {rm : Room} {D : va_G} {ty : Nat → ClassId} {av : List Value} {bs : List va_W} {S : Type}
abbrev BodyH (l : Launch) (y : MethodName) (w : List Cond) (rm : Room) (D : va_G) (ty : Nat → ClassId) (av : List Value) (bs : List va_W) (cc : ByteArray) (maxL : Nat) (ret : Option FieldType) (hh : List (Nat × Nat × Nat × Nat)) (Qx : (Nat → Prop) → Array Value → State → Outcome → State → Prop) : Prop :=
  ∀ (p : Program) (e : Env) (s : State) (m : MethodId) (args : Array Value) (below : List Frame) (meth : Method) (c : Code) (A : Nat → Prop), p.tables.exec = Jvm.exec → c.code = cc → meth.sig.returnType = ret → c.maxLocals = maxL → s.vm.findClass y.cls = some m.cls → meth.locks = false → meth.name = y.name → (∀ z ∈ w, z.before args s = true) → (∀ q, s.heap.size ≤ q → A q) → CX A s s.heap → va_K D vwCl (tyL ty) s → va_P D vwCl (fl bs) s.heap → va_D A (fl bs) → c.exceptionTable.toList = tableOf hh → ∀ ls : Array Slot, lv_has ls maxL (lv_args 0 av) →
    W p l e rm s m args below meth c s.heap [] 0 0 (MQ below (Qx A) args s rm.cells rm.slots A) (F0 m 0 ls [])
theorem CTi_ofH {post : Int32 → S → Prop} {bs' : S → List va_W} (cc : ByteArray) (maxL : Nat) (ret : Option FieldType) (hh : List (Nat × Nat × Nat × Nat)) (hy : plainName y.cls = true) (hw : w = Cond.codeWith y cc maxL ret hh :: w') (hfit : (lg_sl av).length ≤ maxL) (body : BodyH l y w rm D ty av bs cc maxL ret hh (fun A => va_Qi post (PostW D bs' A) A)) : CTi l y w rm D ty av bs post bs' := by
  intro sz
  refine MetH_of (cc := cc) (maxL := maxL) (ret := ret) (hh := hh) hy hw ?_
  intro p e s m args below meth c s₁ B hml ht0 hv
  obtain ⟨rfl, hsz, hP, hK, hD0, hX⟩ := hv
  subst hsz
  have hD := hD0.self (sz := s.heap.size)
  have hl := lv_entry av hfit
  rw [lg_entry_eq]
  exact body p e s m av.toArray below meth c _ B.exec B.bytes B.returns hml (findClass_of_methodNamed B.named) B.notSynchronized (name_of_methodNamed B.named B.method).1 (atoms_spec (ws := w) B.pre) (fun q h => Or.inr h) hX hK hP hD ht0 _ hl
end HD
section HC
variable {p : Program} {l : Launch} {e : Env} {R : Room} {s : State} {m : MethodId} {args : Array Value} {below : List Frame} {meth : Method} {c : Code} {H : Heap} {locs : List Loc} {cells slots : Nat} {Q : State → Prop}
variable {cc : ByteArray} {pc : Nat} {ls : Array Slot} {rest : List Value} {D : va_G} {ty : Nat → ClassId} {A : Nat → Prop} {bs bsc bsr bxc : List va_W}
variable {y : MethodName} {w Ts : List Cond} {rm : Room} {bytes : ByteArray} {maxL nL index n : Nat} {ret : Option FieldType} {own C : String} {b : Nat} {As st : List Value}
/-- a virtual call whose callee may throw: both ways go on here -/
theorem cVxi {S : Type} {post : Int32 → S → Prop} {bs' : S → List va_W} {px : String → Prop} (F : CallFix p m c cc nL s args Ts own) (hM : CXi l y w rm D ty (.ref b :: As) bsc bxc post bs' px) (cw : CallW R s args own C index y bytes maxL ret w rm rm.cells rm.slots n)
    (hK : va_K D vwCl (tyL ty) s) (hX : CX A s s.heap) (hP : va_P D vwCl (fl bs) H) (hD : va_D A (fl bs)) (hS : va_S A s.heap H locs) (hA : ∀ q, s.heap.size ≤ q → A q) (hpk : (fl bs).Perm (fl bsc ++ fl bsr)) {ci : Nat} {T : u_T} {N : Nat} {fs : List Value} (hc : vwCl[ci]? = some (C, T, N)) (q0 : Nat) (he : (fl bsc)[q0]? = some (b, .inr (ci, fs)))
    (hn : As.length = n) (hl : ls.size = nL) (hst : st = As.reverse ++ .ref b :: rest) (hW : (rest.map fun v => v.category).sum ≤ 8) (hdg : decode cc pc = .ok (.invokevirtual index, 3)) (hf : cells + rm.cells ≤ R.cells ∧ slots + rm.slots ≤ R.slots)
    (kx : ∀ (E : String), px E → ∀ (ce : Cell) (q9 : Addr) (H1 : Heap) (locs1 : List Loc), va_P D vwCl (fl (bxc ++ bsr)) H1 → va_D A (fl (bxc ++ bsr)) → va_S A s.heap H1 locs1 → H1[q9]? = some ce → ce.vm = .none → s.vm.findClass E = some ce.cls → vx_W p l e R s m args below meth c H1 locs1 (cells + rm.cells) (slots + rm.slots) Q (F0 m pc ls rest) q9)
    (kk : ∀ (r : Int32) (u : S), post r u → ∀ (H1 : Heap) (locs1 : List Loc), va_P D vwCl (fl (bs' u ++ bsr)) H1 → va_D A (fl (bs' u ++ bsr)) → va_S A s.heap H1 locs1 → W p l e R s m args below meth c H1 locs1 (cells + rm.cells) (slots + rm.slots) Q (F0 m (pc + 3) ls (.int r :: rest))) : W p l e R s m args below meth c H locs cells slots Q (F0 m pc ls st) := by
  obtain ⟨hF, hpre⟩ := pre_cut (av := .ref b :: As) hK hX hP hD hS hA hpk
  refine vx_calli (vx_runV (As := As) (rest := rest) F (hM H.size) cw ⟨PreW_blind, va_recv hK (P_left (P_perm hpk hP)) hc he, hpre⟩ rfl hn hl hst (lv_room hW) hdg hf) hS (fun q _ h => hF q h) hF (fun q _ h => hF q h) (fun E ce q9 u t H1 locs1 ht hvm hu hB hz1 hk1 hS1 hce hcv hcl => ?_) (fun r u t H1 locs1 ht hvm hw hB hz1 hk1 hS1 => ?_)
  · obtain ⟨hE, hP1, hD1⟩ := hB
    rw [ht] at hP1
    obtain ⟨hP2, hD2⟩ := post_join hP hD hpk hF hk1 hP1 hD1
    rw [← fl_app] at hP2 hD2
    exact kx E hE ce q9 H1 locs1 hP2 hD2 hS1 hce hcv hcl
  · obtain ⟨hP1, hD1⟩ := hB
    rw [ht] at hP1
    obtain ⟨hP2, hD2⟩ := post_join hP hD hpk hF hk1 hP1 hD1
    rw [← fl_app] at hP2 hD2
    exact kk r u hw H1 locs1 hP2 hD2 hS1
theorem cVxl {S : Type} {post : Int64 → S → Prop} {bs' : S → List va_W} {px : String → Prop} (F : CallFix p m c cc nL s args Ts own) (hM : CXl l y w rm D ty (.ref b :: As) bsc bxc post bs' px) (cw : CallW R s args own C index y bytes maxL ret w rm rm.cells rm.slots n)
    (hK : va_K D vwCl (tyL ty) s) (hX : CX A s s.heap) (hP : va_P D vwCl (fl bs) H) (hD : va_D A (fl bs)) (hS : va_S A s.heap H locs) (hA : ∀ q, s.heap.size ≤ q → A q) (hpk : (fl bs).Perm (fl bsc ++ fl bsr)) {ci : Nat} {T : u_T} {N : Nat} {fs : List Value} (hc : vwCl[ci]? = some (C, T, N)) (q0 : Nat) (he : (fl bsc)[q0]? = some (b, .inr (ci, fs)))
    (hn : As.length = n) (hl : ls.size = nL) (hst : st = As.reverse ++ .ref b :: rest) (hW : (rest.map fun v => v.category).sum ≤ 8) (hdg : decode cc pc = .ok (.invokevirtual index, 3)) (hf : cells + rm.cells ≤ R.cells ∧ slots + rm.slots ≤ R.slots)
    (kx : ∀ (E : String), px E → ∀ (ce : Cell) (q9 : Addr) (H1 : Heap) (locs1 : List Loc), va_P D vwCl (fl (bxc ++ bsr)) H1 → va_D A (fl (bxc ++ bsr)) → va_S A s.heap H1 locs1 → H1[q9]? = some ce → ce.vm = .none → s.vm.findClass E = some ce.cls → vx_W p l e R s m args below meth c H1 locs1 (cells + rm.cells) (slots + rm.slots) Q (F0 m pc ls rest) q9)
    (kk : ∀ (r : Int64) (u : S), post r u → ∀ (H1 : Heap) (locs1 : List Loc), va_P D vwCl (fl (bs' u ++ bsr)) H1 → va_D A (fl (bs' u ++ bsr)) → va_S A s.heap H1 locs1 → W p l e R s m args below meth c H1 locs1 (cells + rm.cells) (slots + rm.slots) Q (F0 m (pc + 3) ls (.long r :: rest))) : W p l e R s m args below meth c H locs cells slots Q (F0 m pc ls st) := by
  obtain ⟨hF, hpre⟩ := pre_cut (av := .ref b :: As) hK hX hP hD hS hA hpk
  refine vx_calll (vx_runV (As := As) (rest := rest) F (hM H.size) cw ⟨PreW_blind, va_recv hK (P_left (P_perm hpk hP)) hc he, hpre⟩ rfl hn hl hst (lv_room hW) hdg hf) hS (fun q _ h => hF q h) hF (fun q _ h => hF q h) (fun E ce q9 u t H1 locs1 ht hvm hu hB hz1 hk1 hS1 hce hcv hcl => ?_) (fun r u t H1 locs1 ht hvm hw hB hz1 hk1 hS1 => ?_)
  · obtain ⟨hE, hP1, hD1⟩ := hB
    rw [ht] at hP1
    obtain ⟨hP2, hD2⟩ := post_join hP hD hpk hF hk1 hP1 hD1
    rw [← fl_app] at hP2 hD2
    exact kx E hE ce q9 H1 locs1 hP2 hD2 hS1 hce hcv hcl
  · obtain ⟨hP1, hD1⟩ := hB
    rw [ht] at hP1
    obtain ⟨hP2, hD2⟩ := post_join hP hD hpk hF hk1 hP1 hD1
    rw [← fl_app] at hP2 hD2
    exact kk r u hw H1 locs1 hP2 hD2 hS1
/-- a static call of a method with a table -/
theorem cSWi {S : Type} {post : Int32 → S → Prop} {bs' : S → List va_W} {hh : List (Nat × Nat × Nat × Nat)} (F : CallFix p m c cc nL s args Ts own) (hM : CTi l y w rm D ty As bsc post bs') (cw : vx_CSW R s args own index y bytes maxL ret hh w rm rm.cells rm.slots n)
    (hK : va_K D vwCl (tyL ty) s) (hX : CX A s s.heap) (hP : va_P D vwCl (fl bs) H) (hD : va_D A (fl bs)) (hS : va_S A s.heap H locs) (hA : ∀ q, s.heap.size ≤ q → A q) (hpk : (fl bs).Perm (fl bsc ++ fl bsr))
    (hn : As.length = n) (hl : ls.size = nL) (hst : st = As.reverse ++ rest) (hW : (rest.map fun v => v.category).sum ≤ 8) (hdg : decode cc pc = .ok (.invokestatic index, 3)) (hf : cells + rm.cells ≤ R.cells ∧ slots + rm.slots ≤ R.slots)
    (kk : ∀ (r : Int32) (u : S), post r u → ∀ (H1 : Heap) (locs1 : List Loc), va_P D vwCl (fl (bs' u ++ bsr)) H1 → va_D A (fl (bs' u ++ bsr)) → va_S A s.heap H1 locs1 → W p l e R s m args below meth c H1 locs1 (cells + rm.cells) (slots + rm.slots) Q (F0 m (pc + 3) ls (.int r :: rest))) : W p l e R s m args below meth c H locs cells slots Q (F0 m pc ls st) := by
  obtain ⟨hF, hpre⟩ := pre_cut (av := As) hK hX hP hD hS hA hpk
  refine va_calli (vx_runSW (As := As) (rest := rest) F (hM H.size) cw ⟨PreW_blind, hpre⟩ rfl hn hl hst (lv_room hW) hdg hf) hS (fun q _ h => hF q h) hF (fun r u t H1 locs1 ht hvm hw hB hz1 hk1 hS1 => ?_)
  obtain ⟨hP1, hD1⟩ := hB
  rw [ht] at hP1
  obtain ⟨hP2, hD2⟩ := post_join hP hD hpk hF hk1 hP1 hD1
  rw [← fl_app] at hP2 hD2
  exact kk r u hw H1 locs1 hP2 hD2 hS1
end HC
