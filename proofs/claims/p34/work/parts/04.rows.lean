theorem nI_mul (a b : Nat) : nI a * nI b = nI (a * b) := (Int32.ofNat_mul a b).symm
theorem po {bs bs2 : List va_W} (is : List Nat) (n : Nat) (hn : bs.length = n) (h : is.Perm (List.range n)) (hB : bk bs is = bs2) : (fl bs).Perm (fl bs2) := by
  subst hn
  rw [← hB]
  have h1 : (bk bs is).Perm (bk bs (List.range bs.length)) := h.map _
  rw [bk_range] at h1
  exact (fl_perm h1).symm
theorem D_same {A : Nat → Prop} {ws ws' : va_W} (hD : va_D A ws) (h : ws.map (·.1) = ws'.map (·.1)) : va_D A ws' := by
  rw [D_iff] at hD ⊢
  refine ⟨by rw [← h]; exact hD.1, fun q hq => ?_⟩
  have h1 : q.1 ∈ ws'.map (·.1) := List.mem_map_of_mem hq
  rw [← h] at h1
  obtain ⟨z, hz, he⟩ := List.mem_map.mp h1
  rw [← he]
  exact hD.2 z hz
theorem D_same2 {A : Nat → Prop} {ws ws' : va_W} (hD : va_D A ws) (L : List Nat) (h1 : ws.map (·.1) = L) (h2 : ws'.map (·.1) = L) : va_D A ws' := D_same hD (h1.trans h2.symm)
theorem fl_adr (bs : List va_W) : (fl bs).map (·.1) = (bs.map (fun b => b.map (·.1))).flatten := by
  induction bs with
  | nil => rfl
  | cons b bs ih =>
    show (b ++ fl bs).map (·.1) = _
    rw [List.map_append, ih]
    rfl
theorem D_rep {A : Nat → Prop} {bs : List va_W} (i : Nat) (b b' : va_W) (hb : b.map (·.1) = b'.map (·.1)) (hi : bs[i]? = some b) (hD : va_D A (fl bs)) : va_D A (fl (bs.set i b')) := by
  refine D_same hD ?_
  rw [fl_adr, fl_adr]
  congr 1
  apply List.ext_getElem?
  intro j
  simp only [List.getElem?_map]
  by_cases hj : j = i
  · subst hj
    have hl := (List.getElem?_eq_some_iff.mp hi).1
    rw [hi, List.getElem?_set_self hl]
    simp [hb]
  · rw [List.getElem?_set_ne (Ne.symm hj)]
theorem P_cons {D : va_G} {c : Nat × va_E} {ws : va_W} {H : Heap} : va_P D vwCl (c :: ws) H ↔ va_at D vwCl c H ∧ va_P D vwCl ws H := by
  rw [P_mem, P_mem]
  exact List.forall_mem_cons
theorem at_ia {D : va_G} {ty : Nat → ClassId} {a n : Nat} {f g : Nat → Int32} {H : Heap} (h : ∀ k, k < n → f k = g k) (hA : va_at D vwCl (ia ty a n f) H) : va_at D vwCl (ia ty a n g) H := by
  have e : vp_cell (ty 0) ((n, .inl f) : vp_A) = vp_cell (ty 0) ((n, .inl g) : vp_A) := by
    rw [vp_cell_i, vp_cell_i]
    unfold arrV
    congr 1
    apply Array.ext
    · simp
    · intro i h1 h2
      have hi : i < n := by simpa using h1
      simp [h i hi]
  exact hA.trans (congrArg some e)
theorem at_za {D : va_G} {ty : Nat → ClassId} {a n : Nat} {f g : Nat → Int32} {H : Heap} (h : ∀ k, k < n → f k = g k) (hA : va_at D vwCl (za ty a n f) H) : va_at D vwCl (za ty a n g) H := by
  have e : vp_cell (ty 2) ((n, .inl f) : vp_A) = vp_cell (ty 2) ((n, .inl g) : vp_A) := by
    rw [vp_cell_i, vp_cell_i]
    unfold arrV
    congr 1
    apply Array.ext
    · simp
    · intro i h1 h2
      have hi : i < n := by simpa using h1
      simp [h i hi]
  exact hA.trans (congrArg some e)
theorem at_la {D : va_G} {ty : Nat → ClassId} {a n : Nat} {f g : Nat → Int64} {H : Heap} (h : ∀ k, k < n → f k = g k) (hA : va_at D vwCl (la ty a n f) H) : va_at D vwCl (la ty a n g) H := by
  have e : vp_cell (ty 1) ((n, .inr (.inl f)) : vp_A) = vp_cell (ty 1) ((n, .inr (.inl g)) : vp_A) := by
    rw [vp_cell_l, vp_cell_l]
    unfold arrV
    congr 1
    apply Array.ext
    · simp
    · intro i h1 h2
      have hi : i < n := by simpa using h1
      simp [h i hi]
  exact hA.trans (congrArg some e)
section KR
variable {p : Program} {l : Launch} {e : Env} {R : Room} {s : State} {m : MethodId} {args : Array Value} {below : List Frame} {meth : Method} {c : Code} {H : Heap} {locs : List Loc} {cells slots : Nat} {Q : State → Prop}
variable {cc : ByteArray} {pc : Nat} {ls : Array Slot} {rest : List Value} {D : va_G} {ty : Nat → ClassId} {A : Nat → Prop} {ws : va_W} {a n : Nat} {H0 : Heap}
theorem k_iald (hexec : p.tables.exec = Jvm.exec) (hb : c.code = cc) (hK : va_K D vwCl (tyL ty) s) (hP : va_P D vwCl ws H) (q0 : Nat) {f : Nat → Int32} (ha : ws[q0]? = some (ia ty a n f)) (j : Nat) {i : Int32} (hi : i = nI j) (hj : j < n) (hn : n < 2 ^ 31) {v : Int32} (hv : f j = v) (hdg : decode cc pc = .ok (.iaload, 1))
    (kk : W p l e R s m args below meth c H locs cells slots Q (F0 m (pc + 1) ls (.int v :: rest))) : W p l e R s m args below meth c H locs cells slots Q (F0 m pc ls (.int i :: .ref a :: rest)) := by
  subst hi; subst hv
  refine va_iald hexec hb hK hP q0 0 ha rfl (vp_in_nI hj hn) hdg ?_
  rw [nI_clamp (by omega)]
  exact kk
theorem k_zald (hexec : p.tables.exec = Jvm.exec) (hb : c.code = cc) (hK : va_K D vwCl (tyL ty) s) (hP : va_P D vwCl ws H) (q0 : Nat) {f : Nat → Int32} (ha : ws[q0]? = some (za ty a n f)) (j : Nat) {i : Int32} (hi : i = nI j) (hj : j < n) (hn : n < 2 ^ 31) {v : Int32} (hv : f j = v) (hdg : decode cc pc = .ok (.baload, 1))
    (kk : W p l e R s m args below meth c H locs cells slots Q (F0 m (pc + 1) ls (.int v :: rest))) : W p l e R s m args below meth c H locs cells slots Q (F0 m pc ls (.int i :: .ref a :: rest)) := by
  subst hi; subst hv
  refine va_zald hexec hb hK hP q0 2 ha rfl (vp_in_nI hj hn) hdg ?_
  rw [nI_clamp (by omega)]
  exact kk
theorem k_saald (hexec : p.tables.exec = Jvm.exec) (hb : c.code = cc) (hK : va_K D vwCl (tyL ty) s) (hP : va_P D vwCl ws H) (q0 : Nat) {f : Nat → Option Nat} (ha : ws[q0]? = some (sa ty a n f)) (j : Nat) {i : Int32} (hi : i = nI j) (hj : j < n) (hn : n < 2 ^ 31) {v : Nat} (hv : f j = some v) (hdg : decode cc pc = .ok (.aaload, 1))
    (kk : W p l e R s m args below meth c H locs cells slots Q (F0 m (pc + 1) ls (.ref v :: rest))) : W p l e R s m args below meth c H locs cells slots Q (F0 m pc ls (.int i :: .ref a :: rest)) := by
  subst hi
  refine va_aldq hexec hb hK hP q0 3 ha rfl (vp_in_nI hj hn) hdg ?_
  rw [nI_clamp (by omega), hv]
  exact kk
theorem k_aaald (hexec : p.tables.exec = Jvm.exec) (hb : c.code = cc) (hK : va_K D vwCl (tyL ty) s) (hP : va_P D vwCl ws H) (q0 : Nat) {f : Nat → Option Nat} (ha : ws[q0]? = some (aa ty a n f)) (j : Nat) {i : Int32} (hi : i = nI j) (hj : j < n) (hn : n < 2 ^ 31) {v : Nat} (hv : f j = some v) (hdg : decode cc pc = .ok (.aaload, 1))
    (kk : W p l e R s m args below meth c H locs cells slots Q (F0 m (pc + 1) ls (.ref v :: rest))) : W p l e R s m args below meth c H locs cells slots Q (F0 m pc ls (.int i :: .ref a :: rest)) := by
  subst hi
  refine va_aldq hexec hb hK hP q0 4 ha rfl (vp_in_nI hj hn) hdg ?_
  rw [nI_clamp (by omega), hv]
  exact kk
theorem k_iast (hexec : p.tables.exec = Jvm.exec) (hb : c.code = cc) (hK : va_K D vwCl (tyL ty) s) (hP : va_P D vwCl ws H) (hD : va_D A ws) (hS : va_S A H0 H locs) (q0 : Nat) {f : Nat → Int32} (ha : ws[q0]? = some (ia ty a n f)) (j : Nat) {i x : Int32} (hi : i = nI j) (hj : j < n) (hn : n < 2 ^ 31) (hdg : decode cc pc = .ok (.iastore, 1))
    (kk : ∀ (H1 : Heap) (locs1 : List Loc), va_P D vwCl (ws.set q0 (ia ty a n (upd f j x))) H1 → va_D A (ws.set q0 (ia ty a n (upd f j x))) → va_S A H0 H1 locs1 → W p l e R s m args below meth c H1 locs1 cells slots Q (F0 m (pc + 1) ls rest)) : W p l e R s m args below meth c H locs cells slots Q (F0 m pc ls (.int x :: .int i :: .ref a :: rest)) := by
  subst hi
  refine va_iast hexec hb hK hP hD hS q0 0 ha rfl (vp_in_nI hj hn) hdg ?_
  rw [nI_clamp (by omega)]
  exact kk
theorem k_zast (hexec : p.tables.exec = Jvm.exec) (hb : c.code = cc) (hK : va_K D vwCl (tyL ty) s) (hP : va_P D vwCl ws H) (hD : va_D A ws) (hS : va_S A H0 H locs) (q0 : Nat) {f : Nat → Int32} (ha : ws[q0]? = some (za ty a n f)) (j : Nat) {i x : Int32} (hi : i = nI j) (hj : j < n) (hn : n < 2 ^ 31) (hx : vp_nar .boolean x = x) (hdg : decode cc pc = .ok (.bastore, 1))
    (kk : ∀ (H1 : Heap) (locs1 : List Loc), va_P D vwCl (ws.set q0 (za ty a n (upd f j x))) H1 → va_D A (ws.set q0 (za ty a n (upd f j x))) → va_S A H0 H1 locs1 → W p l e R s m args below meth c H1 locs1 cells slots Q (F0 m (pc + 1) ls rest)) : W p l e R s m args below meth c H locs cells slots Q (F0 m pc ls (.int x :: .int i :: .ref a :: rest)) := by
  subst hi
  refine va_zast hexec hb hK hP hD hS q0 2 ha rfl (vp_in_nI hj hn) hdg ?_
  rw [nI_clamp (by omega), hx]
  exact kk
end KR
section KT
variable {p : Program} {l : Launch} {e : Env} {R : Room} {s : State} {m : MethodId} {args : Array Value} {below : List Frame} {meth : Method} {c : Code} {H : Heap} {locs : List Loc} {cells slots : Nat} {Q : State → Prop}
variable {cc : ByteArray} {pc : Nat} {ls : Array Slot} {rest : List Value}
theorem k_iand (hexec : p.tables.exec = Jvm.exec) (hb : c.code = cc) {x y v : Int32} (hdg : decode cc pc = .ok (.iand, 1)) (hv : x &&& y = v)
    (k : W p l e R s m args below meth c H locs cells slots Q (F0 m (pc + 1) ls (.int v :: rest))) : W p l e R s m args below meth c H locs cells slots Q (F0 m pc ls (.int y :: .int x :: rest)) := lv_iand hexec hb hdg (by rw [hv]; exact k)
theorem k_ior (hexec : p.tables.exec = Jvm.exec) (hb : c.code = cc) {x y v : Int32} (hdg : decode cc pc = .ok (.ior, 1)) (hv : x ||| y = v)
    (k : W p l e R s m args below meth c H locs cells slots Q (F0 m (pc + 1) ls (.int v :: rest))) : W p l e R s m args below meth c H locs cells slots Q (F0 m pc ls (.int y :: .int x :: rest)) := lv_ior hexec hb hdg (by rw [hv]; exact k)
theorem k_ishl (hexec : p.tables.exec = Jvm.exec) (hb : c.code = cc) {x y v : Int32} (hdg : decode cc pc = .ok (.ishl, 1)) (hv : x <<< (y &&& 31) = v)
    (k : W p l e R s m args below meth c H locs cells slots Q (F0 m (pc + 1) ls (.int v :: rest))) : W p l e R s m args below meth c H locs cells slots Q (F0 m pc ls (.int y :: .int x :: rest)) := lv_ishl hexec hb hdg (by rw [hv]; exact k)
theorem k_ishr (hexec : p.tables.exec = Jvm.exec) (hb : c.code = cc) {x y v : Int32} (hdg : decode cc pc = .ok (.ishr, 1)) (hv : x >>> (y &&& 31) = v)
    (k : W p l e R s m args below meth c H locs cells slots Q (F0 m (pc + 1) ls (.int v :: rest))) : W p l e R s m args below meth c H locs cells slots Q (F0 m pc ls (.int y :: .int x :: rest)) := lv_ishr hexec hb hdg (by rw [hv]; exact k)
end KT
def bz (x : Int32) : Int32 := if x = 1 then 1 else 0
theorem bz_0 : bz 0 = 0 := by decide
theorem bz_1 : bz 1 = 1 := by decide
theorem bz_or (x : Int32) : bz x = 0 ∨ bz x = 1 := by
  unfold bz
  by_cases h : x = 1
  · rw [if_pos h]; exact Or.inr rfl
  · rw [if_neg h]; exact Or.inl rfl
theorem bz_nar (x : Int32) : narrow .boolean (.int (bz x)) = .int (bz x) := by rcases bz_or x with h | h <;> rw [h] <;> rfl
theorem bz_fit (x : Int32) : fits .boolean (.int (bz x)) = true := by rcases bz_or x with h | h <;> rw [h] <;> decide

theorem P_setc {D : va_G} {ws : va_W} {q : Nat} {e1 e2 : Nat × va_E} {H : Heap} (hq : q < ws.length) (h : va_P D vwCl (ws.set q e1) H) (he : va_at D vwCl e1 H → va_at D vwCl e2 H) : va_P D vwCl (ws.set q e2) H := by
  intro k x hk
  by_cases hkq : k = q
  · subst hkq
    rw [List.getElem?_set_self hq] at hk
    cases hk
    exact he (h k e1 (List.getElem?_set_self hq))
  · rw [List.getElem?_set_ne (Ne.symm hkq)] at hk
    exact h k x (by rw [List.getElem?_set_ne (Ne.symm hkq)]; exact hk)
section KS
variable {p : Program} {l : Launch} {e : Env} {R : Room} {s : State} {m : MethodId} {args : Array Value} {below : List Frame} {meth : Method} {c : Code} {H : Heap} {locs : List Loc} {cells slots : Nat} {Q : State → Prop}
variable {cc : ByteArray} {pc : Nat} {ls : Array Slot} {rest : List Value} {D : va_G} {ty : Nat → ClassId} {A : Nat → Prop} {ws : va_W} {a a0 n : Nat} {H0 : Heap}
theorem k_copyi (hexec : p.tables.exec = Jvm.exec) (hb : c.code = cc) (hml : c.maxLocals = ls.size) {own : String} {index : Nat} (hown : s.vm.findClass own = some m.cls) (hlink : (Cond.methodLink own index arraycopyName).before args s = true) (hnat : (Cond.native arraycopyName).before args s = true) (hstat : (Cond.static arraycopyName).before args s = true) (hini : (Cond.initialized "java/lang/System").before args s = true)
    (hK : va_K D vwCl (tyL ty) s) (hP : va_P D vwCl ws H) (hD : va_D A ws) (hS : va_S A H0 H locs) (q0 q1 : Nat) {f g : Nat → Int32} (ha0 : ws[q0]? = some (ia ty a0 n f)) (ha1 : ws[q1]? = some (ia ty a n g)) {w : Int32} (hw : w = nI n) (hn : n < 2 ^ 31)
    (hframes : 1 ≤ R.frames) (hlocals : (rest.map fun v => v.category).sum + (nativeFrameWords "java/lang/System" "arraycopy" 5 + 11) ≤ R.locals) (hdg : decode cc pc = .ok (.invokestatic index, 3))
    (kk : ∀ (H1 : Heap) (locs1 : List Loc), va_P D vwCl (ws.set q1 (ia ty a n f)) H1 → va_D A (ws.set q1 (ia ty a n f)) → va_S A H0 H1 locs1 → W p l e R s m args below meth c H1 locs1 cells slots Q (F0 m (pc + 3) ls rest)) : W p l e R s m args below meth c H locs cells slots Q (F0 m pc ls (.int w :: .int 0 :: .ref a :: .int 0 :: .ref a0 :: rest)) := by
  subst hw
  have hz : (0 : Int32).toNatClampNeg = 0 := rfl
  refine va_copyi hexec hb hml hown hlink hnat hstat hini hK hP hD hS q0 q1 0 0 ha0 ha1 rfl rfl rfl (by decide) (by decide) (nI_pos hn) (by rw [nI_clamp hn, hz]; omega) (by rw [nI_clamp hn, hz]; omega) (fun i _ => rfl) hframes hlocals hdg (fun H1 locs1 hP1 hD1 hS1 => ?_)
  rw [nI_clamp hn, hz] at hP1 hD1
  have hq : q1 < ws.length := (List.getElem?_eq_some_iff.mp ha1).1
  refine kk H1 locs1 (P_setc hq hP1 (at_ia (fun k hk => ?_))) (D_same hD1 (by simp [List.map_set])) hS1
  unfold va_cpy
  rw [if_pos (by omega)]
  congr 1
  omega
theorem k_copyz (hexec : p.tables.exec = Jvm.exec) (hb : c.code = cc) (hml : c.maxLocals = ls.size) {own : String} {index : Nat} (hown : s.vm.findClass own = some m.cls) (hlink : (Cond.methodLink own index arraycopyName).before args s = true) (hnat : (Cond.native arraycopyName).before args s = true) (hstat : (Cond.static arraycopyName).before args s = true) (hini : (Cond.initialized "java/lang/System").before args s = true)
    (hK : va_K D vwCl (tyL ty) s) (hP : va_P D vwCl ws H) (hD : va_D A ws) (hS : va_S A H0 H locs) (q0 q1 : Nat) {f g : Nat → Int32} (ha0 : ws[q0]? = some (za ty a0 n f)) (ha1 : ws[q1]? = some (za ty a n g)) {w : Int32} (hw : w = nI n) (hn : n < 2 ^ 31) (hfit : ∀ i, i < n → fits .boolean (.int (f i)) = true)
    (hframes : 1 ≤ R.frames) (hlocals : (rest.map fun v => v.category).sum + (nativeFrameWords "java/lang/System" "arraycopy" 5 + 11) ≤ R.locals) (hdg : decode cc pc = .ok (.invokestatic index, 3))
    (kk : ∀ (H1 : Heap) (locs1 : List Loc), va_P D vwCl (ws.set q1 (za ty a n f)) H1 → va_D A (ws.set q1 (za ty a n f)) → va_S A H0 H1 locs1 → W p l e R s m args below meth c H1 locs1 cells slots Q (F0 m (pc + 3) ls rest)) : W p l e R s m args below meth c H locs cells slots Q (F0 m pc ls (.int w :: .int 0 :: .ref a :: .int 0 :: .ref a0 :: rest)) := by
  subst hw
  have hz : (0 : Int32).toNatClampNeg = 0 := rfl
  refine va_copyi hexec hb hml hown hlink hnat hstat hini hK hP hD hS q0 q1 2 2 ha0 ha1 rfl rfl rfl (by decide) (by decide) (nI_pos hn) (by rw [nI_clamp hn, hz]; omega) (by rw [nI_clamp hn, hz]; omega) (fun i hi => by rw [nI_clamp hn] at hi; rw [hz, Nat.zero_add]; exact hfit i hi) hframes hlocals hdg (fun H1 locs1 hP1 hD1 hS1 => ?_)
  rw [nI_clamp hn, hz] at hP1 hD1
  have hq : q1 < ws.length := (List.getElem?_eq_some_iff.mp ha1).1
  refine kk H1 locs1 (P_setc hq hP1 (at_za (fun k hk => ?_))) (D_same hD1 (by simp [List.map_set])) hS1
  unfold va_cpy
  rw [if_pos (by omega)]
  congr 1
  omega
theorem k_newi (hexec : p.tables.exec = Jvm.exec) (hb : c.code = cc) (harr : (Cond.arrayClass .int).before args s = true) (hK : va_K D vwCl (tyL ty) s) (hP : va_P D vwCl ws H) (hD : va_D A ws) (hS : va_S A H0 H locs) (hA : ∀ q, H0.size ≤ q → A q)
    {w : Int32} (hw : w = nI n) (hn : n < 2 ^ 20) (hcells : cells + 1 ≤ R.cells) (hslots : slots + n ≤ R.slots) (hdg : decode cc pc = .ok (.newarray .int, 2))
    (kk : ∀ (q : Nat) (H : Heap), va_P D vwCl (ws ++ [ia ty q n (fun _ => 0)]) H → va_D A (ws ++ [ia ty q n (fun _ => 0)]) → va_S A H0 H locs → W p l e R s m args below meth c H locs (cells + 1) (slots + n) Q (F0 m (pc + 2) ls (.ref q :: rest))) : W p l e R s m args below meth c H locs cells slots Q (F0 m pc ls (.int w :: rest)) := by
  subst hw
  refine va_newa (atype := .int) hexec hb harr rfl hK hP hD hS hA (a0 := (n, .inl fun _ => 0)) (fun cA => rfl) (nI_pos (by omega)) (nI_clamp (by omega)) (by show n * 4 ≤ _; omega) hcells hslots hdg (fun q cA H1 hK1 hP1 hD1 hS1 => ?_)
  have e1 : s.vm.findClass _ = some cA := (hK1.2 5 (cA, .int) rfl).2
  have e2 : s.vm.findClass _ = some (ty 0) := (hK.2 0 (ty 0, .int) rfl).2
  have e3 : cA = ty 0 := Option.some.inj (e1.symm.trans e2)
  subst e3
  exact kk q H1 hP1 hD1 hS1
theorem k_newz (hexec : p.tables.exec = Jvm.exec) (hb : c.code = cc) (harr : (Cond.arrayClass .boolean).before args s = true) (hK : va_K D vwCl (tyL ty) s) (hP : va_P D vwCl ws H) (hD : va_D A ws) (hS : va_S A H0 H locs) (hA : ∀ q, H0.size ≤ q → A q)
    {w : Int32} (hw : w = nI n) (hn : n < 2 ^ 20) (hcells : cells + 1 ≤ R.cells) (hslots : slots + n ≤ R.slots) (hdg : decode cc pc = .ok (.newarray .boolean, 2))
    (kk : ∀ (q : Nat) (H : Heap), va_P D vwCl (ws ++ [za ty q n (fun _ => 0)]) H → va_D A (ws ++ [za ty q n (fun _ => 0)]) → va_S A H0 H locs → W p l e R s m args below meth c H locs (cells + 1) (slots + n) Q (F0 m (pc + 2) ls (.ref q :: rest))) : W p l e R s m args below meth c H locs cells slots Q (F0 m pc ls (.int w :: rest)) := by
  subst hw
  refine va_newa (atype := .boolean) hexec hb harr rfl hK hP hD hS hA (a0 := (n, .inl fun _ => 0)) (fun cA => rfl) (nI_pos (by omega)) (nI_clamp (by omega)) (by show n * 1 ≤ _; omega) hcells hslots hdg (fun q cA H1 hK1 hP1 hD1 hS1 => ?_)
  have e1 : s.vm.findClass _ = some cA := (hK1.2 5 (cA, .boolean) rfl).2
  have e2 : s.vm.findClass _ = some (ty 2) := (hK.2 2 (ty 2, .boolean) rfl).2
  have e3 : cA = ty 2 := Option.some.inj (e1.symm.trans e2)
  subst e3
  exact kk q H1 hP1 hD1 hS1
theorem RA_cls {U : State} {cA : ClassId} {C : String} (h : va_RA U cA (.object C)) : U.vm.findClass ("[" ++ (FieldType.object C).toString) = some cA := by
  obtain ⟨_, _, _, _, _, h4⟩ := h
  exact h4
theorem k_newS (hexec : p.tables.exec = Jvm.exec) (hb : c.code = cc) {own : String} {index : Nat} (hown : s.vm.findClass own = some m.cls) (hclink : (Cond.classLink own index RX5).before args s = true) (hover : va_AO RX5 s) (hK : va_K D vwCl (tyL ty) s) (hP : va_P D vwCl ws H) (hD : va_D A ws) (hS : va_S A H0 H locs) (hA : ∀ q, H0.size ≤ q → A q)
    {w : Int32} (hw : w = nI n) (hn : n < 2 ^ 20) (hcells : cells + 1 ≤ R.cells) (hslots : slots + n ≤ R.slots) (hdg : decode cc pc = .ok (.anewarray index, 3))
    (kk : ∀ (q : Nat) (H : Heap), va_P D vwCl (ws ++ [sa ty q n (fun _ => none)]) H → va_D A (ws ++ [sa ty q n (fun _ => none)]) → va_S A H0 H locs → W p l e R s m args below meth c H locs (cells + 1) (slots + n) Q (F0 m (pc + 3) ls (.ref q :: rest))) : W p l e R s m args below meth c H locs cells slots Q (F0 m pc ls (.int w :: rest)) := by
  subst hw
  refine va_newq hexec hb hown hclink hover hK hP hD hS hA (nI_pos (by omega)) (nI_clamp (by omega)) (by omega) hcells hslots hdg (fun q cA H1 hK1 hP1 hD1 hS1 => ?_)
  have e1 := RA_cls (hK1.2 5 (cA, .object RX5) rfl).2
  have e2 := RA_cls (hK.2 3 (ty 3, .object RX5) rfl).2
  have e3 : cA = ty 3 := Option.some.inj (e1.symm.trans e2)
  subst e3
  exact kk q H1 hP1 hD1 hS1
theorem k_newA (hexec : p.tables.exec = Jvm.exec) (hb : c.code = cc) {own : String} {index : Nat} (hown : s.vm.findClass own = some m.cls) (hclink : (Cond.classLink own index RX0).before args s = true) (hover : va_AO RX0 s) (hK : va_K D vwCl (tyL ty) s) (hP : va_P D vwCl ws H) (hD : va_D A ws) (hS : va_S A H0 H locs) (hA : ∀ q, H0.size ≤ q → A q)
    {w : Int32} (hw : w = nI n) (hn : n < 2 ^ 20) (hcells : cells + 1 ≤ R.cells) (hslots : slots + n ≤ R.slots) (hdg : decode cc pc = .ok (.anewarray index, 3))
    (kk : ∀ (q : Nat) (H : Heap), va_P D vwCl (ws ++ [aa ty q n (fun _ => none)]) H → va_D A (ws ++ [aa ty q n (fun _ => none)]) → va_S A H0 H locs → W p l e R s m args below meth c H locs (cells + 1) (slots + n) Q (F0 m (pc + 3) ls (.ref q :: rest))) : W p l e R s m args below meth c H locs cells slots Q (F0 m pc ls (.int w :: rest)) := by
  subst hw
  refine va_newq hexec hb hown hclink hover hK hP hD hS hA (nI_pos (by omega)) (nI_clamp (by omega)) (by omega) hcells hslots hdg (fun q cA H1 hK1 hP1 hD1 hS1 => ?_)
  have e1 := RA_cls (hK1.2 5 (cA, .object RX0) rfl).2
  have e2 := RA_cls (hK.2 4 (ty 4, .object RX0) rfl).2
  have e3 : cA = ty 4 := Option.some.inj (e1.symm.trans e2)
  subst e3
  exact kk q H1 hP1 hD1 hS1
theorem k_sast (hexec : p.tables.exec = Jvm.exec) (hb : c.code = cc) (hK : va_K D vwCl (tyL ty) s) (hP : va_P D vwCl ws H) (hD : va_D A ws) (hS : va_S A H0 H locs) (q0 qk : Nat) {f : Nat → Option Nat} {v : Nat} {vs : List Value} (ha : ws[q0]? = some (sa ty a n f)) (hv : ws[qk]? = some (ob v 4 vs)) (j : Nat) {i : Int32} (hi : i = nI j) (hj : j < n) (hn : n < 2 ^ 31) (hdg : decode cc pc = .ok (.aastore, 1))
    (kk : ∀ (H : Heap) (locs : List Loc), va_P D vwCl (ws.set q0 (sa ty a n (va_up f j (some v)))) H → va_D A (ws.set q0 (sa ty a n (va_up f j (some v)))) → va_S A H0 H locs → W p l e R s m args below meth c H locs cells slots Q (F0 m (pc + 1) ls rest)) : W p l e R s m args below meth c H locs cells slots Q (F0 m pc ls (.ref v :: .int i :: .ref a :: rest)) := by
  subst hi
  refine va_astq hexec hb hK hP hD hS q0 3 qk 4 (r := (RX5, TX5, 6)) ha rfl hv rfl (vp_in_nI hj hn) hdg ?_
  rw [nI_clamp (by omega)]
  exact kk
theorem k_aast (hexec : p.tables.exec = Jvm.exec) (hb : c.code = cc) (hK : va_K D vwCl (tyL ty) s) (hP : va_P D vwCl ws H) (hD : va_D A ws) (hS : va_S A H0 H locs) (q0 qk : Nat) {f : Nat → Option Nat} {v : Nat} {vs : List Value} (ha : ws[q0]? = some (aa ty a n f)) (hv : ws[qk]? = some (ob v 0 vs)) (j : Nat) {i : Int32} (hi : i = nI j) (hj : j < n) (hn : n < 2 ^ 31) (hdg : decode cc pc = .ok (.aastore, 1))
    (kk : ∀ (H : Heap) (locs : List Loc), va_P D vwCl (ws.set q0 (aa ty a n (va_up f j (some v)))) H → va_D A (ws.set q0 (aa ty a n (va_up f j (some v)))) → va_S A H0 H locs → W p l e R s m args below meth c H locs cells slots Q (F0 m (pc + 1) ls rest)) : W p l e R s m args below meth c H locs cells slots Q (F0 m pc ls (.ref v :: .int i :: .ref a :: rest)) := by
  subst hi
  refine va_astq hexec hb hK hP hD hS q0 4 qk 0 (r := (RX0, TX0, 3)) ha rfl hv rfl (vp_in_nI hj hn) hdg ?_
  rw [nI_clamp (by omega)]
  exact kk
end KS

theorem fl_push (bs : List va_W) (c : Nat × va_E) : fl bs ++ [c] = fl (bs ++ [[c]]) := by simp [fl]
section KI
variable {p : Program} {l : Launch} {e : Env} {R : Room} {s : State} {m : MethodId} {args : Array Value} {below : List Frame} {meth : Method} {c : Code} {H : Heap} {locs : List Loc} {cells slots : Nat} {Q : State → Prop}
variable {cc : ByteArray} {pc : Nat} {ls : Array Slot} {rest : List Value} {D : va_G} {ty : Nat → ClassId} {A : Nat → Prop} {bs bsc bsr : List va_W}
variable {y : MethodName} {w Ts : List Cond} {rm : Room} {bytes : ByteArray} {maxL nL index n : Nat} {own host : String} {b : Nat} {As st : List Value}
theorem cIv {S : Type} {post : S → Prop} {bs' : S → List va_W} (F : CallFix p m c cc nL s args Ts own) (hM : CTv l y w rm D ty (.ref b :: As) bsc post bs') (cw : CallB R s args own index y bytes maxL none w rm rm.cells rm.slots n ∧ y.name = "<init>" ∧ (Cond.instanceMethod y).before args s = true)
    (hK : va_K D vwCl (tyL ty) s) (hX : CX A s s.heap) (hP : va_P D vwCl (fl bs) H) (hD : va_D A (fl bs)) (hS : va_S A s.heap H locs) (hA : ∀ q, s.heap.size ≤ q → A q) (hpk : (fl bs).Perm (fl bsc ++ fl bsr))
    (hn : As.length = n) (hl : ls.size = nL) (hst : st = As.reverse ++ .ref b :: rest) (hW : (rest.map fun v => v.category).sum ≤ 8) (hdg : decode cc pc = .ok (.invokespecial index, 3)) (hf : cells + rm.cells ≤ R.cells ∧ slots + rm.slots ≤ R.slots)
    (kk : ∀ (u : S), post u → ∀ (H1 : Heap) (locs1 : List Loc), va_P D vwCl (fl (bs' u ++ bsr)) H1 → va_D A (fl (bs' u ++ bsr)) → va_S A s.heap H1 locs1 → W p l e R s m args below meth c H1 locs1 (cells + rm.cells) (slots + rm.slots) Q (F0 m (pc + 3) ls rest)) : W p l e R s m args below meth c H locs cells slots Q (F0 m pc ls st) := by
  obtain ⟨hF, hpre⟩ := pre_cut (av := .ref b :: As) hK hX hP hD hS hA hpk
  refine va_callv (va_runI (As := As) (rest := rest) F (hM H.size) cw ⟨PreW_blind, hpre⟩ rfl hn hl hst (lv_room hW) hdg hf) hS (fun q _ h => hF q h) hF (fun u t H1 locs1 ht hvm hw hB hz1 hk1 hS1 => ?_)
  obtain ⟨hP1, hD1⟩ := hB
  rw [ht] at hP1
  obtain ⟨hP2, hD2⟩ := post_join hP hD hpk hF hk1 hP1 hD1
  rw [← fl_app] at hP2 hD2
  exact kk u hw H1 locs1 hP2 hD2 hS1
theorem cNv {S : Type} {post : S → Prop} {bs' : S → List va_W} (F : CallFix p m c cc nL s args Ts own) (hM : CTv l y w rm D ty (.ref b :: As) bsc post bs') (cw : va_CN R s args own index y host bytes maxL none w rm rm.cells rm.slots n ∧ y.name = "<init>" ∧ (Cond.instanceMethod y).before args s = true)
    (hK : va_K D vwCl (tyL ty) s) (hX : CX A s s.heap) (hP : va_P D vwCl (fl bs) H) (hD : va_D A (fl bs)) (hS : va_S A s.heap H locs) (hA : ∀ q, s.heap.size ≤ q → A q) (hpk : (fl bs).Perm (fl bsc ++ fl bsr))
    (hn : As.length = n) (hl : ls.size = nL) (hst : st = As.reverse ++ .ref b :: rest) (hW : (rest.map fun v => v.category).sum ≤ 8) (hdg : decode cc pc = .ok (.invokespecial index, 3)) (hf : cells + rm.cells ≤ R.cells ∧ slots + rm.slots ≤ R.slots)
    (kk : ∀ (u : S), post u → ∀ (H1 : Heap) (locs1 : List Loc), va_P D vwCl (fl (bs' u ++ bsr)) H1 → va_D A (fl (bs' u ++ bsr)) → va_S A s.heap H1 locs1 → W p l e R s m args below meth c H1 locs1 (cells + rm.cells) (slots + rm.slots) Q (F0 m (pc + 3) ls rest)) : W p l e R s m args below meth c H locs cells slots Q (F0 m pc ls st) := by
  obtain ⟨hF, hpre⟩ := pre_cut (av := .ref b :: As) hK hX hP hD hS hA hpk
  refine va_callv (va_runIN (As := As) (rest := rest) F (hM H.size) cw ⟨PreW_blind, hpre⟩ rfl hn hl hst (lv_room hW) hdg hf) hS (fun q _ h => hF q h) hF (fun u t H1 locs1 ht hvm hw hB hz1 hk1 hS1 => ?_)
  obtain ⟨hP1, hD1⟩ := hB
  rw [ht] at hP1
  obtain ⟨hP2, hD2⟩ := post_join hP hD hpk hF hk1 hP1 hD1
  rw [← fl_app] at hP2 hD2
  exact kk u hw H1 locs1 hP2 hD2 hS1
end KI
