/-! contracts in a wider world: what the callee doesn't know stays as it is; answers of 64 bits behind a table of handlers -/
section FR
variable {l : Launch} {y : MethodName} {w : List Cond} {rm : Room} {D : va_G} {ty : Nat → ClassId} {av : List Value} {bs bsc bsr : List va_W}
theorem fr_sub {sz : Nat} (hpk : (fl bs).Perm (fl bsc ++ fl bsr)) : ∀ q, va_A (fl bsc) sz q → va_A (fl bs) sz q := by
  intro q h
  rcases h with ⟨k, e, h⟩ | h
  · have hm : (q, e) ∈ fl bs := hpk.mem_iff.mpr (List.mem_append_left _ (List.mem_of_getElem? h))
    obtain ⟨j, hj⟩ := List.getElem?_of_mem hm
    exact Or.inl ⟨j, e, hj⟩
  · exact Or.inr h
theorem fr_pre {sz : Nat} (hpk : (fl bs).Perm (fl bsc ++ fl bsr)) {U : State} (h : PreW D ty bs sz U) : PreW D ty bsc sz U := by
  obtain ⟨hsz, hP, hK, hD, hX⟩ := h
  exact ⟨hsz, P_left (P_perm hpk hP), hK, D_left (D_perm hpk hD), CX_narrow hX (fr_sub hpk)⟩
theorem fr_post {sz : Nat} (hpk : (fl bs).Perm (fl bsc ++ fl bsr)) {U t : State} {b1 b2 : List va_W} (h : PreW D ty bs sz U) (hF : va_F (va_A (fl bsc) sz) U t) (hP1 : va_P D vwCl (fl b1) t.heap) (hD1 : va_D (va_A (fl bsc) sz) (fl b1)) (ho : (fl b1 ++ fl bsr).Perm (fl b2)) : va_P D vwCl (fl b2) t.heap ∧ va_D (va_A (fl bs) sz) (fl b2) := by
  obtain ⟨hsz, hP, hK, hD, hX⟩ := h
  subst hsz
  have hD0 := hD.self (sz := U.heap.size)
  obtain ⟨hP2, hD2⟩ := post_join (A := va_A (fl bs) U.heap.size) (H := U.heap) hP hD0 hpk (fr_sub hpk) hF.2 hP1 hD1
  exact ⟨P_perm ho hP2, D_perm ho hD2⟩
theorem CTi_frame {S S2 : Type} {post : Int32 → S → Prop} {bs' : S → List va_W} (h : CTi l y w rm D ty av bsc post bs') (hpk : (fl bs).Perm (fl bsc ++ fl bsr)) {post2 : Int32 → S2 → Prop} {bs2 : S2 → List va_W} (ho : ∀ r u, post r u → ∃ u2, post2 r u2 ∧ (fl (bs' u) ++ fl bsr).Perm (fl (bs2 u2))) : CTi l y w rm D ty av bs post2 bs2 := by
  intro sz
  refine MetFree.mono (h sz) ?_ (fun _ _ _ _ _ k => k) ?_
  · intro a s hp
    exact ⟨hp.1, fr_pre hpk hp.2⟩
  · intro a s o t hp hq
    obtain ⟨⟨⟨r, u, ho1, hpost, hB1, hB2⟩, hF⟩, L, hFE, hL⟩ := hq
    obtain ⟨u2, hp2, hperm⟩ := ho r u hpost
    exact ⟨⟨⟨r, u2, ho1, hp2, fr_post hpk hp.2 hF hB1 hB2 hperm⟩, hF.1, fun q hq hn => hF.2 q hq (fun z => hn (fr_sub hpk q z))⟩, L, hFE, fun q hq => fr_sub hpk _ (hL q hq)⟩
theorem CTl_frame {S S2 : Type} {post : Int64 → S → Prop} {bs' : S → List va_W} (h : CTl l y w rm D ty av bsc post bs') (hpk : (fl bs).Perm (fl bsc ++ fl bsr)) {post2 : Int64 → S2 → Prop} {bs2 : S2 → List va_W} (ho : ∀ r u, post r u → ∃ u2, post2 r u2 ∧ (fl (bs' u) ++ fl bsr).Perm (fl (bs2 u2))) : CTl l y w rm D ty av bs post2 bs2 := by
  intro sz
  refine MetFree.mono (h sz) ?_ (fun _ _ _ _ _ k => k) ?_
  · intro a s hp
    exact ⟨hp.1, fr_pre hpk hp.2⟩
  · intro a s o t hp hq
    obtain ⟨⟨⟨r, u, ho1, hpost, hB1, hB2⟩, hF⟩, L, hFE, hL⟩ := hq
    obtain ⟨u2, hp2, hperm⟩ := ho r u hpost
    exact ⟨⟨⟨r, u2, ho1, hp2, fr_post hpk hp.2 hF hB1 hB2 hperm⟩, hF.1, fun q hq hn => hF.2 q hq (fun z => hn (fr_sub hpk q z))⟩, L, hFE, fun q hq => fr_sub hpk _ (hL q hq)⟩
theorem CTl_ofH {S : Type} {w' : List Cond} {post : Int64 → S → Prop} {bs' : S → List va_W} (cc : ByteArray) (maxL : Nat) (ret : Option FieldType) (hh : List (Nat × Nat × Nat × Nat)) (hy : plainName y.cls = true) (hw : w = Cond.codeWith y cc maxL ret hh :: w') (hfit : (lg_sl av).length ≤ maxL) (body : BodyH l y w rm D ty av bs cc maxL ret hh (fun A => va_Ql post (PostW D bs' A) A)) : CTl l y w rm D ty av bs post bs' := by
  intro sz
  refine MetH_of (cc := cc) (maxL := maxL) (ret := ret) (hh := hh) hy hw ?_
  intro p e s m args below meth c s₁ B hml ht0 hv
  obtain ⟨rfl, hsz, hP, hK, hD0, hX⟩ := hv
  subst hsz
  have hD := hD0.self (sz := s.heap.size)
  have hl := lv_entry av hfit
  rw [lg_entry_eq]
  exact body p e s m av.toArray below meth c _ B.exec B.bytes B.returns hml (findClass_of_methodNamed B.named) B.notSynchronized (name_of_methodNamed B.named B.method).1 (atoms_spec (ws := w) B.pre) (fun q h => Or.inr h) hX hK hP hD ht0 _ hl
end FR
section HL
variable {p : Program} {l : Launch} {e : Env} {R : Room} {s : State} {m : MethodId} {args : Array Value} {below : List Frame} {meth : Method} {c : Code} {H : Heap} {locs : List Loc} {cells slots : Nat} {Q : State → Prop}
variable {cc : ByteArray} {pc : Nat} {ls : Array Slot} {rest : List Value} {D : va_G} {ty : Nat → ClassId} {A : Nat → Prop} {bs bsc bsr : List va_W}
variable {y : MethodName} {w Ts : List Cond} {rm : Room} {bytes : ByteArray} {maxL nL index n : Nat} {ret : Option FieldType} {own : String} {As st : List Value}
/-- a static call of a method with a table, its answer of 64 bits -/
theorem cSWl {S : Type} {post : Int64 → S → Prop} {bs' : S → List va_W} {hh : List (Nat × Nat × Nat × Nat)} (F : CallFix p m c cc nL s args Ts own) (hM : CTl l y w rm D ty As bsc post bs') (cw : vx_CSW R s args own index y bytes maxL ret hh w rm rm.cells rm.slots n)
    (hK : va_K D vwCl (tyL ty) s) (hX : CX A s s.heap) (hP : va_P D vwCl (fl bs) H) (hD : va_D A (fl bs)) (hS : va_S A s.heap H locs) (hA : ∀ q, s.heap.size ≤ q → A q) (hpk : (fl bs).Perm (fl bsc ++ fl bsr))
    (hn : As.length = n) (hl : ls.size = nL) (hst : st = As.reverse ++ rest) (hW : (rest.map fun v => v.category).sum ≤ 8) (hdg : decode cc pc = .ok (.invokestatic index, 3)) (hf : cells + rm.cells ≤ R.cells ∧ slots + rm.slots ≤ R.slots)
    (kk : ∀ (r : Int64) (u : S), post r u → ∀ (H1 : Heap) (locs1 : List Loc), va_P D vwCl (fl (bs' u ++ bsr)) H1 → va_D A (fl (bs' u ++ bsr)) → va_S A s.heap H1 locs1 → W p l e R s m args below meth c H1 locs1 (cells + rm.cells) (slots + rm.slots) Q (F0 m (pc + 3) ls (.long r :: rest))) : W p l e R s m args below meth c H locs cells slots Q (F0 m pc ls st) := by
  obtain ⟨hF, hpre⟩ := pre_cut (av := As) hK hX hP hD hS hA hpk
  refine va_calll (vx_runSW (As := As) (rest := rest) F (hM H.size) cw ⟨PreW_blind, hpre⟩ rfl hn hl hst (lv_room hW) hdg hf) hS (fun q _ h => hF q h) hF (fun r u t H1 locs1 ht hvm hw hB hz1 hk1 hS1 => ?_)
  obtain ⟨hP1, hD1⟩ := hB
  rw [ht] at hP1
  obtain ⟨hP2, hD2⟩ := post_join hP hD hpk hF hk1 hP1 hD1
  rw [← fl_app] at hP2 hD2
  exact kk r u hw H1 locs1 hP2 hD2 hS1
end HL
