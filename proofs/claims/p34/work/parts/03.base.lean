abbrev vwCl : List vw_C := [(RX0, TX0, 3), (RX1, TX1, 7), (RX2, TX2, 2), (RX4, TX4, 2), (RX5, TX5, 6), (RX6, TX6, 4), (RX7, TX7, 6), (RX8, TX8, 7), (RX9, TX9, 5)]
section KB
variable {p : Program} {l : Launch} {e : Env} {R : Room} {s : State} {m : MethodId} {args : Array Value} {below : List Frame} {meth : Method} {c : Code} {H : Heap} {locs : List Loc} {cells slots : Nat} {Q : State → Prop}
variable {cc : ByteArray} {pc : Nat} {ls : Array Slot} {rest : List Value}
theorem k_iadd (hexec : p.tables.exec = Jvm.exec) (hb : c.code = cc) {x y v : Int32} (hdg : decode cc pc = .ok (.iadd, 1)) (hv : x + y = v)
    (k : W p l e R s m args below meth c H locs cells slots Q (F0 m (pc + 1) ls (.int v :: rest))) : W p l e R s m args below meth c H locs cells slots Q (F0 m pc ls (.int y :: .int x :: rest)) := lv_iadd hexec hb hdg (hv ▸ k)
theorem k_isub (hexec : p.tables.exec = Jvm.exec) (hb : c.code = cc) {x y v : Int32} (hdg : decode cc pc = .ok (.isub, 1)) (hv : x - y = v)
    (k : W p l e R s m args below meth c H locs cells slots Q (F0 m (pc + 1) ls (.int v :: rest))) : W p l e R s m args below meth c H locs cells slots Q (F0 m pc ls (.int y :: .int x :: rest)) := lv_isub hexec hb hdg (hv ▸ k)
theorem k_imul (hexec : p.tables.exec = Jvm.exec) (hb : c.code = cc) {x y v : Int32} (hdg : decode cc pc = .ok (.imul, 1)) (hv : x * y = v)
    (k : W p l e R s m args below meth c H locs cells slots Q (F0 m (pc + 1) ls (.int v :: rest))) : W p l e R s m args below meth c H locs cells slots Q (F0 m pc ls (.int y :: .int x :: rest)) := lv_imul hexec hb hdg (hv ▸ k)
theorem k_idiv (hexec : p.tables.exec = Jvm.exec) (hb : c.code = cc) {x y v : Int32} (hdg : decode cc pc = .ok (.idiv, 1)) (hne : ¬ y = 0) (hv : x / y = v)
    (k : W p l e R s m args below meth c H locs cells slots Q (F0 m (pc + 1) ls (.int v :: rest))) : W p l e R s m args below meth c H locs cells slots Q (F0 m pc ls (.int y :: .int x :: rest)) := lv_idiv hexec hb hdg hne (by rw [hv]; exact k)
theorem k_irem (hexec : p.tables.exec = Jvm.exec) (hb : c.code = cc) {x y v : Int32} (hdg : decode cc pc = .ok (.irem, 1)) (hne : ¬ y = 0) (hv : x - (x / y) * y = v)
    (k : W p l e R s m args below meth c H locs cells slots Q (F0 m (pc + 1) ls (.int v :: rest))) : W p l e R s m args below meth c H locs cells slots Q (F0 m pc ls (.int y :: .int x :: rest)) := lv_irem hexec hb hdg hne (by rw [hv]; exact k)
theorem k_ineg (hexec : p.tables.exec = Jvm.exec) (hb : c.code = cc) {x v : Int32} (hdg : decode cc pc = .ok (.ineg, 1)) (hv : -x = v)
    (k : W p l e R s m args below meth c H locs cells slots Q (F0 m (pc + 1) ls (.int v :: rest))) : W p l e R s m args below meth c H locs cells slots Q (F0 m pc ls (.int x :: rest)) := lv_ineg hexec hb hdg (by rw [hv]; exact k)
theorem k_ladd (hexec : p.tables.exec = Jvm.exec) (hb : c.code = cc) {x y v : Int64} (hdg : decode cc pc = .ok (.ladd, 1)) (hv : x + y = v)
    (k : W p l e R s m args below meth c H locs cells slots Q (F0 m (pc + 1) ls (.long v :: rest))) : W p l e R s m args below meth c H locs cells slots Q (F0 m pc ls (.long y :: .long x :: rest)) := lv_ladd hexec hb hdg (hv ▸ k)
end KB
/-! worlds in blocks -/
def fl (bs : List va_W) : va_W := bs.flatten
abbrev ob (a ci : Nat) (fs : List Value) : Nat × va_E := (a, .inr (ci, fs))
abbrev ia (ty : Nat → ClassId) (a n : Nat) (f : Nat → Int32) : Nat × va_E := (a, .inl (ty 0, n, .inl f))
abbrev la (ty : Nat → ClassId) (a n : Nat) (f : Nat → Int64) : Nat × va_E := (a, .inl (ty 1, n, .inr (.inl f)))
abbrev za (ty : Nat → ClassId) (a n : Nat) (f : Nat → Int32) : Nat × va_E := (a, .inl (ty 2, n, .inl f))
abbrev sa (ty : Nat → ClassId) (a n : Nat) (f : Nat → Option Nat) : Nat × va_E := (a, .inl (ty 3, n, .inr (.inr (.inr (.inr f)))))
abbrev aa (ty : Nat → ClassId) (a n : Nat) (f : Nat → Option Nat) : Nat × va_E := (a, .inl (ty 4, n, .inr (.inr (.inr (.inr f)))))
abbrev tyL (ty : Nat → ClassId) : List (ClassId × FieldType) := [(ty 0, .int), (ty 1, .int), (ty 2, .boolean), (ty 3, .object RX5), (ty 4, .object RX0)]
theorem P_mem {D : va_G} {cl : List vw_C} {ws : va_W} {H : Heap} : va_P D cl ws H ↔ ∀ q ∈ ws, va_at D cl q H := by
  constructor
  · intro h q hq
    obtain ⟨k, hk⟩ := List.getElem?_of_mem hq
    exact h k q hk
  · intro h k q hk
    exact h q (List.mem_of_getElem? hk)
theorem P_perm {D : va_G} {cl : List vw_C} {ws ws' : va_W} {H : Heap} (hp : ws.Perm ws') (h : va_P D cl ws H) : va_P D cl ws' H :=
  P_mem.mpr fun q hq => P_mem.mp h q (hp.mem_iff.mpr hq)
def DN (A : Nat → Prop) (ws : va_W) : Prop := (ws.map (·.1)).Nodup ∧ ∀ q ∈ ws, A q.1
theorem D_iff {A : Nat → Prop} {ws : va_W} : va_D A ws ↔ DN A ws := by
  constructor
  · intro h
    refine ⟨?_, fun q hq => ?_⟩
    · rw [List.nodup_iff_pairwise_ne, List.pairwise_iff_getElem]
      intro i j hi hj hij he
      have hi' : i < ws.length := by simpa using hi
      have hj' : j < ws.length := by simpa using hj
      have := h.1 i j ws[i] ws[j] (List.getElem?_eq_getElem hi') (List.getElem?_eq_getElem hj') (by simpa using he)
      omega
    · obtain ⟨k, hk⟩ := List.getElem?_of_mem hq
      exact h.2 k q hk
  · intro h
    obtain ⟨h1, h2⟩ := h
    rw [List.nodup_iff_pairwise_ne, List.pairwise_iff_getElem] at h1
    refine ⟨fun i j p q hi hj he => ?_, fun k q hk => h2 q (List.mem_of_getElem? hk)⟩
    obtain ⟨li, ei⟩ := List.getElem?_eq_some_iff.mp hi
    obtain ⟨lj, ej⟩ := List.getElem?_eq_some_iff.mp hj
    have li' : i < (ws.map (·.1)).length := by simpa using li
    have lj' : j < (ws.map (·.1)).length := by simpa using lj
    have hei : (ws.map (·.1))[i] = p.1 := by rw [List.getElem_map, ei]
    have hej : (ws.map (·.1))[j] = q.1 := by rw [List.getElem_map, ej]
    rcases Nat.lt_trichotomy i j with hlt | heq | hgt
    · exact absurd (hei.trans (he.trans hej.symm)) (h1 i j li' lj' hlt)
    · exact heq
    · exact absurd (hej.trans (he.symm.trans hei.symm)) (h1 j i lj' li' hgt)
theorem D_perm {A : Nat → Prop} {ws ws' : va_W} (hp : ws.Perm ws') (h : va_D A ws) : va_D A ws' := by
  rw [D_iff] at h ⊢
  exact ⟨(hp.map _).nodup_iff.mp h.1, fun q hq => h.2 q (hp.mem_iff.mpr hq)⟩
theorem D_left {A : Nat → Prop} {a b : va_W} (h : va_D A (a ++ b)) : va_D A a := by
  rw [D_iff] at h ⊢
  obtain ⟨h1, h2⟩ := h
  rw [List.map_append, List.nodup_append] at h1
  exact ⟨h1.1, fun q hq => h2 q (List.mem_append_left _ hq)⟩
theorem P_left {D : va_G} {cl : List vw_C} {a b : va_W} {H : Heap} (h : va_P D cl (a ++ b) H) : va_P D cl a H :=
  P_mem.mpr fun q hq => P_mem.mp h q (List.mem_append_left _ hq)
theorem fl_perm {a b : List va_W} (h : a.Perm b) : (fl a).Perm (fl b) := by
  induction h with
  | nil => exact List.Perm.refl _
  | cons x _ ih => exact List.Perm.append_left x ih
  | swap x y l =>
    show (y ++ (x ++ fl l)).Perm (x ++ (y ++ fl l))
    rw [← List.append_assoc, ← List.append_assoc]
    exact List.Perm.append_right _ List.perm_append_comm
  | trans _ _ h1 h2 => exact h1.trans h2
theorem fl_app (a b : List va_W) : fl (a ++ b) = fl a ++ fl b := List.flatten_append
def bk (bs : List va_W) (is : List Nat) : List va_W := is.map (fun i => bs.getD i [])
theorem bk_range (bs : List va_W) : bk bs (List.range bs.length) = bs := by
  apply List.ext_getElem
  · simp [bk]
  · intro i h1 h2
    simp [bk, h2]
/-- the blocks in two parts, by their places -/
theorem pk {bs bsc bsr : List va_W} (isC isR : List Nat) (n : Nat) (hn : bs.length = n) (h : (isC ++ isR).Perm (List.range n)) (hC : bk bs isC = bsc) (hR : bk bs isR = bsr) : (fl bs).Perm (fl bsc ++ fl bsr) := by
  subst hn
  rw [← fl_app, ← hC, ← hR]
  have h1 : (bk bs (isC ++ isR)).Perm (bk bs (List.range bs.length)) := h.map _
  rw [bk_range] at h1
  have h2 : bk bs (isC ++ isR) = bk bs isC ++ bk bs isR := List.map_append
  rw [h2] at h1
  exact (fl_perm h1).symm
/-! what every call leaves as it is: the JDK's two statics, the constant array, the words of the throws -/
def ahd (j : Nat) : Int32 := if j = 0 then 1 else if j = 1 then 2 else if j = 2 then 5 else if j = 3 then 8 else if j = 4 then 9 else 12
abbrev EIA : String := "java/lang/IllegalArgumentException"
abbrev EIS : String := "java/lang/IllegalStateException"
abbrev EIO : String := "java/lang/IndexOutOfBoundsException"
def CW (U : State) : Prop :=
  (va_AO RX5 U ∧ va_AO RX0 U) ∧
  (va_Nw (.methodLinkNest RX9 9 yX8_init RX9) U ∧ va_Nw (.methodLinkNest RX5 11 yX1_init RX9) U ∧ va_Nw (.methodLinkNest RX5 20 yX6_init RX9) U ∧ va_Nw (.methodLinkNest RX5 27 yX7_init RX9) U ∧ va_Nw (.methodLinkNest RX5 42 yX0_init RX9) U) ∧
  (va_Nw (.castable EIA EIA) U ∧ va_Nw (.castable EIS EIS) U ∧ va_Nw (.castable EIO EIO) U) ∧
  ((va_Nc EIA EIS U ∧ va_Nc EIA EIO U ∧ va_Nc EIS EIA U ∧ va_Nc EIS EIO U ∧ va_Nc EIO EIA U ∧ va_Nc EIO EIS U) ∧
   (va_Nw (.declares (Bundle.initS "java/lang/RuntimeException")) U ∧ va_Nw (.declares (Bundle.initS "java/lang/Exception")) U ∧ va_Nw (.declares (Bundle.initS Bundle.tN)) U)) ∧
  ((∃ a, vk_R RX9 248 "an argument is out of its range" a U) ∧ (∃ a, vk_R RX9 50 "the text is full" a U) ∧ (∃ a, vk_R RX9 64 "the text is not one to load" a U) ∧ (∃ a, vk_R RX9 252 "there is no such thing" a U) ∧
   (∃ a, vk_R RX9 259 "the supply is not main" a U) ∧ (∃ a, vk_R RX9 182 "no state is remembered" a U) ∧ (∃ a, vk_R RX9 218 "the script has too many digits, or is negative" a U) ∧ (∃ a, vk_R RX9 246 "nothing has been saved in this slot" a U))
theorem CW_moved {u U : State} (hW : u.WarmedH U.vm) (h : CW u) : CW U := by
  obtain ⟨⟨a1, a2⟩, ⟨b1, b2, b3, b4, b5⟩, ⟨c1, c2, c3⟩, ⟨⟨d1, d2, d3, d4, d5, d6⟩, ⟨g1, g2, g3⟩⟩, ⟨e1, f1⟩, ⟨e2, f2⟩, ⟨e3, f3⟩, ⟨e4, f4⟩, ⟨e5, f5⟩, ⟨e6, f6⟩, ⟨e7, f7⟩, ⟨e8, f8⟩⟩ := h
  have hv := hW.alike
  exact ⟨⟨a1.moved hv, a2.moved hv⟩, ⟨va_Nw.warmM hW b1, va_Nw.warmM hW b2, va_Nw.warmM hW b3, va_Nw.warmM hW b4, va_Nw.warmM hW b5⟩, ⟨va_Nw.warmC hW c1, va_Nw.warmC hW c2, va_Nw.warmC hW c3⟩, ⟨⟨d1.moved hv, d2.moved hv, d3.moved hv, d4.moved hv, d5.moved hv, d6.moved hv⟩, ⟨va_Nw.warmD hW g1, va_Nw.warmD hW g2, va_Nw.warmD hW g3⟩⟩,
    ⟨e1, vk_R.warm hW f1⟩, ⟨e2, vk_R.warm hW f2⟩, ⟨e3, vk_R.warm hW f3⟩, ⟨e4, vk_R.warm hW f4⟩, ⟨e5, vk_R.warm hW f5⟩, ⟨e6, vk_R.warm hW f6⟩, ⟨e7, vk_R.warm hW f7⟩, ⟨e8, vk_R.warm hW f8⟩⟩
def CX (A : Nat → Prop) (U : State) (H : Heap) : Prop :=
  CW U ∧ vx_Zq Bundle.tN "UNASSIGNED_STACK" Bundle.steD A U H ∧ vx_Zq Bundle.tN "SUPPRESSED_SENTINEL" Bundle.listD A U H ∧
  ∃ t : Nat, va_Z RX9 "AHEAD" "[I" (.ref t) A U H ∧ va_T .int t 6 (fun j => .int (ahd j)) A U H
theorem CX_moved {A : Nat → Prop} {u U : State} {H : Heap} (hW : u.WarmedH U.vm) (h : CX A u H) : CX A U H := by
  obtain ⟨h0, h1, h2, t, h3, h4⟩ := h
  have hvm := hW.alike
  exact ⟨CW_moved hW h0, vx_Zq.moved hvm h1, vx_Zq.moved hvm h2, t, va_Z.moved hvm h3, va_T.moved hvm h4⟩
theorem CX_kept {A : Nat → Prop} {U : State} {H H1 : Heap} (h : CX A U H) (hq : ∀ a : Nat, a < H.size → ¬ A a → H1[a]? = H[a]?) : CX A U H1 := by
  obtain ⟨h0, h1, h2, t, h3, h4⟩ := h
  exact ⟨h0, vx_Zq.kept h1 hq, vx_Zq.kept h2 hq, t, va_Z.kept h3 hq, va_T.kept h4 hq⟩
theorem CX_narrow {A B : Nat → Prop} {U : State} {H : Heap} (h : CX A U H) (hAB : ∀ q, B q → A q) : CX B U H := by
  obtain ⟨h0, h1, h2, t, h3, h4⟩ := h
  exact ⟨h0, vx_Zq.narrow h1 hAB, vx_Zq.narrow h2 hAB, t, va_Z.narrow h3 hAB, va_T.narrow h4 hAB⟩
def PreW (D : va_G) (ty : Nat → ClassId) (bs : List va_W) (sz : Nat) (U : State) : Prop :=
  U.heap.size = sz ∧ va_P D vwCl (fl bs) U.heap ∧ va_K D vwCl (tyL ty) U ∧ va_D (fun _ => True) (fl bs) ∧ CX (va_A (fl bs) sz) U U.heap
abbrev PostW {S : Type} (D : va_G) (bs' : S → List va_W) (A : Nat → Prop) (u : S) (t : State) : Prop := va_P D vwCl (fl (bs' u)) t.heap ∧ va_D A (fl (bs' u))
def CTi {S : Type} (l : Launch) (y : MethodName) (w : List Cond) (rm : Room) (D : va_G) (ty : Nat → ClassId) (av : List Value) (bs : List va_W) (post : Int32 → S → Prop) (bs' : S → List va_W) : Prop :=
  ∀ sz, Met l y w rm (va_Pc av (PreW D ty bs sz)) (va_Qi post (PostW D bs' (va_A (fl bs) sz)) (va_A (fl bs) sz)) rm.cells rm.slots (va_A (fl bs) sz)
def CTl {S : Type} (l : Launch) (y : MethodName) (w : List Cond) (rm : Room) (D : va_G) (ty : Nat → ClassId) (av : List Value) (bs : List va_W) (post : Int64 → S → Prop) (bs' : S → List va_W) : Prop :=
  ∀ sz, Met l y w rm (va_Pc av (PreW D ty bs sz)) (va_Ql post (PostW D bs' (va_A (fl bs) sz)) (va_A (fl bs) sz)) rm.cells rm.slots (va_A (fl bs) sz)
def CTv {S : Type} (l : Launch) (y : MethodName) (w : List Cond) (rm : Room) (D : va_G) (ty : Nat → ClassId) (av : List Value) (bs : List va_W) (post : S → Prop) (bs' : S → List va_W) : Prop :=
  ∀ sz, Met l y w rm (va_Pc av (PreW D ty bs sz)) (va_Qv post (PostW D bs' (va_A (fl bs) sz)) (va_A (fl bs) sz)) rm.cells rm.slots (va_A (fl bs) sz)
theorem PreW_blind {D : va_G} {ty : Nat → ClassId} {av : List Value} {bs : List va_W} {sz : Nat} : FrameBlind (va_Pc av (PreW D ty bs sz)) := by
  intro a U g mk q
  obtain ⟨q0, q1, qP, qK, qD, qX⟩ := q
  exact ⟨q0, q1, qP, va_K.moved (u := U) (U := U.calling g mk a) (Vm.Alike.refl U.vm) qK, qD, CX_moved (u := U) (U := U.calling g mk a) (State.WarmedH.refl U) qX⟩
section KC
variable {p : Program} {l : Launch} {e : Env} {R : Room} {s : State} {m : MethodId} {args : Array Value} {below : List Frame} {meth : Method} {c : Code} {H : Heap} {locs : List Loc} {cells slots : Nat} {Q : State → Prop}
variable {cc : ByteArray} {pc : Nat} {ls : Array Slot} {rest : List Value} {D : va_G} {ty : Nat → ClassId} {A : Nat → Prop} {bs bsc bsr : List va_W}
/-- a callee's part, ready for the call -/
theorem pre_cut {av : List Value} (hK : va_K D vwCl (tyL ty) s) (hX : CX A s s.heap) (hP : va_P D vwCl (fl bs) H) (hD : va_D A (fl bs)) (hS : va_S A s.heap H locs) (hA : ∀ q, s.heap.size ≤ q → A q) (hpk : (fl bs).Perm (fl bsc ++ fl bsr)) :
    (∀ q, va_A (fl bsc) H.size q → A q) ∧ ∀ U : State, U.heap = H → s.WarmedH U.vm → va_Pc av (PreW D ty bsc H.size) av.toArray U := by
  have hD1 := D_perm hpk hD
  have hF : ∀ q, va_A (fl bsc) H.size q → A q := by
    intro q h
    rcases h with ⟨k, e, h⟩ | h
    · exact (D_left hD1).2 k (q, e) h
    · exact hA q (Nat.le_trans hS.1 h)
  refine ⟨hF, fun U hU hW => ⟨rfl, by rw [hU], by rw [hU]; exact P_left (P_perm hpk hP), va_K.moved hW.alike hK, (D_left hD1).weaken (fun _ _ _ _ => trivial), ?_⟩⟩
  rw [hU]
  exact CX_moved hW (CX_narrow (CX_kept hX hS.2.1) hF)
theorem D_disj {a b : va_W} (h : va_D A (a ++ b)) : ∀ x ∈ a, ∀ y ∈ b, x.1 ≠ y.1 := by
  rw [D_iff] at h
  have h1 := h.1
  rw [List.map_append, List.nodup_append] at h1
  intro x hx y hy
  exact h1.2.2 x.1 (List.mem_map_of_mem hx) y.1 (List.mem_map_of_mem hy)
theorem D_glue {a b : va_W} (ha : va_D A a) (hb : va_D A b) (h : ∀ x ∈ a, ∀ y ∈ b, x.1 ≠ y.1) : va_D A (a ++ b) := by
  rw [D_iff] at ha hb ⊢
  refine ⟨?_, fun q hq => (List.mem_append.mp hq).elim (ha.2 q) (hb.2 q)⟩
  rw [List.map_append, List.nodup_append]
  refine ⟨ha.1, hb.1, ?_⟩
  intro x hx y hy
  obtain ⟨q, h1, rfl⟩ := List.mem_map.mp hx
  obtain ⟨r, h2, rfl⟩ := List.mem_map.mp hy
  exact h q h1 r h2
/-- behind the call -/
theorem post_join {w1 : va_W} {H1 : Heap} (hP : va_P D vwCl (fl bs) H) (hD : va_D A (fl bs)) (hpk : (fl bs).Perm (fl bsc ++ fl bsr)) (hF : ∀ q, va_A (fl bsc) H.size q → A q)
    (hk : ∀ q : Nat, q < H.size → ¬ va_A (fl bsc) H.size q → H1[q]? = H[q]?) (hP1 : va_P D vwCl w1 H1) (hD1 : va_D (va_A (fl bsc) H.size) w1) : va_P D vwCl (w1 ++ fl bsr) H1 ∧ va_D A (w1 ++ fl bsr) := by
  have hPa := P_perm hpk hP
  have hDa := D_perm hpk hD
  have hdis := D_disj hDa
  have hDr : va_D A (fl bsr) := D_left (D_perm List.perm_append_comm hDa)
  have hPr : va_P D vwCl (fl bsr) H := P_left (P_perm List.perm_append_comm hPa)
  have apart : ∀ q ∈ fl bsr, ¬ va_A (fl bsc) H.size q.1 := by
    intro q hq h
    rcases h with ⟨k, e, h⟩ | h
    · exact hdis (q.1, e) (List.mem_of_getElem? h) q hq rfl
    · have := (P_mem.mp hPr q hq).lt
      omega
  refine ⟨va_P.app hP1 (P_mem.mpr fun q hq => (P_mem.mp hPr q hq).kept (hk q.1 (P_mem.mp hPr q hq).lt (apart q hq))), D_glue (hD1.weaken fun k q _ h => hF q.1 h) hDr ?_⟩
  intro x hx y hy he
  have h1 := (D_iff.mp hD1).2 x hx
  exact apart y hy (by rw [← he]; exact h1)
variable {y : MethodName} {w Ts : List Cond} {rm : Room} {bytes : ByteArray} {maxL nL index n : Nat} {ret : Option FieldType} {own C : String} {b : Nat} {As st : List Value}
theorem cVi {S : Type} {post : Int32 → S → Prop} {bs' : S → List va_W} (F : CallFix p m c cc nL s args Ts own) (hM : CTi l y w rm D ty (.ref b :: As) bsc post bs') (cw : CallW R s args own C index y bytes maxL ret w rm rm.cells rm.slots n)
    (hK : va_K D vwCl (tyL ty) s) (hX : CX A s s.heap) (hP : va_P D vwCl (fl bs) H) (hD : va_D A (fl bs)) (hS : va_S A s.heap H locs) (hA : ∀ q, s.heap.size ≤ q → A q) (hpk : (fl bs).Perm (fl bsc ++ fl bsr)) {ci : Nat} {T : u_T} {N : Nat} {fs : List Value} (hc : vwCl[ci]? = some (C, T, N)) (q0 : Nat) (he : (fl bsc)[q0]? = some (b, .inr (ci, fs)))
    (hn : As.length = n) (hl : ls.size = nL) (hst : st = As.reverse ++ .ref b :: rest) (hW : (rest.map fun v => v.category).sum ≤ 8) (hdg : decode cc pc = .ok (.invokevirtual index, 3)) (hf : cells + rm.cells ≤ R.cells ∧ slots + rm.slots ≤ R.slots)
    (kk : ∀ (r : Int32) (u : S), post r u → ∀ (H1 : Heap) (locs1 : List Loc), va_P D vwCl (fl (bs' u ++ bsr)) H1 → va_D A (fl (bs' u ++ bsr)) → va_S A s.heap H1 locs1 → W p l e R s m args below meth c H1 locs1 (cells + rm.cells) (slots + rm.slots) Q (F0 m (pc + 3) ls (.int r :: rest))) : W p l e R s m args below meth c H locs cells slots Q (F0 m pc ls st) := by
  obtain ⟨hF, hpre⟩ := pre_cut (av := .ref b :: As) hK hX hP hD hS hA hpk
  refine va_calli (va_runV (As := As) (rest := rest) F (hM H.size) cw ⟨PreW_blind, va_recv hK (P_left (P_perm hpk hP)) hc he, hpre⟩ rfl hn hl hst (lv_room hW) hdg hf) hS (fun q _ h => hF q h) hF (fun r u t H1 locs1 ht hvm hw hB hz1 hk1 hS1 => ?_)
  obtain ⟨hP1, hD1⟩ := hB
  rw [ht] at hP1
  obtain ⟨hP2, hD2⟩ := post_join hP hD hpk hF hk1 hP1 hD1
  rw [← fl_app] at hP2 hD2
  exact kk r u hw H1 locs1 hP2 hD2 hS1
theorem cVl {S : Type} {post : Int64 → S → Prop} {bs' : S → List va_W} (F : CallFix p m c cc nL s args Ts own) (hM : CTl l y w rm D ty (.ref b :: As) bsc post bs') (cw : CallW R s args own C index y bytes maxL ret w rm rm.cells rm.slots n)
    (hK : va_K D vwCl (tyL ty) s) (hX : CX A s s.heap) (hP : va_P D vwCl (fl bs) H) (hD : va_D A (fl bs)) (hS : va_S A s.heap H locs) (hA : ∀ q, s.heap.size ≤ q → A q) (hpk : (fl bs).Perm (fl bsc ++ fl bsr)) {ci : Nat} {T : u_T} {N : Nat} {fs : List Value} (hc : vwCl[ci]? = some (C, T, N)) (q0 : Nat) (he : (fl bsc)[q0]? = some (b, .inr (ci, fs)))
    (hn : As.length = n) (hl : ls.size = nL) (hst : st = As.reverse ++ .ref b :: rest) (hW : (rest.map fun v => v.category).sum ≤ 8) (hdg : decode cc pc = .ok (.invokevirtual index, 3)) (hf : cells + rm.cells ≤ R.cells ∧ slots + rm.slots ≤ R.slots)
    (kk : ∀ (r : Int64) (u : S), post r u → ∀ (H1 : Heap) (locs1 : List Loc), va_P D vwCl (fl (bs' u ++ bsr)) H1 → va_D A (fl (bs' u ++ bsr)) → va_S A s.heap H1 locs1 → W p l e R s m args below meth c H1 locs1 (cells + rm.cells) (slots + rm.slots) Q (F0 m (pc + 3) ls (.long r :: rest))) : W p l e R s m args below meth c H locs cells slots Q (F0 m pc ls st) := by
  obtain ⟨hF, hpre⟩ := pre_cut (av := .ref b :: As) hK hX hP hD hS hA hpk
  refine va_calll (va_runV (As := As) (rest := rest) F (hM H.size) cw ⟨PreW_blind, va_recv hK (P_left (P_perm hpk hP)) hc he, hpre⟩ rfl hn hl hst (lv_room hW) hdg hf) hS (fun q _ h => hF q h) hF (fun r u t H1 locs1 ht hvm hw hB hz1 hk1 hS1 => ?_)
  obtain ⟨hP1, hD1⟩ := hB
  rw [ht] at hP1
  obtain ⟨hP2, hD2⟩ := post_join hP hD hpk hF hk1 hP1 hD1
  rw [← fl_app] at hP2 hD2
  exact kk r u hw H1 locs1 hP2 hD2 hS1
theorem cVv {S : Type} {post : S → Prop} {bs' : S → List va_W} (F : CallFix p m c cc nL s args Ts own) (hM : CTv l y w rm D ty (.ref b :: As) bsc post bs') (cw : CallW R s args own C index y bytes maxL ret w rm rm.cells rm.slots n)
    (hK : va_K D vwCl (tyL ty) s) (hX : CX A s s.heap) (hP : va_P D vwCl (fl bs) H) (hD : va_D A (fl bs)) (hS : va_S A s.heap H locs) (hA : ∀ q, s.heap.size ≤ q → A q) (hpk : (fl bs).Perm (fl bsc ++ fl bsr)) {ci : Nat} {T : u_T} {N : Nat} {fs : List Value} (hc : vwCl[ci]? = some (C, T, N)) (q0 : Nat) (he : (fl bsc)[q0]? = some (b, .inr (ci, fs)))
    (hn : As.length = n) (hl : ls.size = nL) (hst : st = As.reverse ++ .ref b :: rest) (hW : (rest.map fun v => v.category).sum ≤ 8) (hdg : decode cc pc = .ok (.invokevirtual index, 3)) (hf : cells + rm.cells ≤ R.cells ∧ slots + rm.slots ≤ R.slots)
    (kk : ∀ (u : S), post u → ∀ (H1 : Heap) (locs1 : List Loc), va_P D vwCl (fl (bs' u ++ bsr)) H1 → va_D A (fl (bs' u ++ bsr)) → va_S A s.heap H1 locs1 → W p l e R s m args below meth c H1 locs1 (cells + rm.cells) (slots + rm.slots) Q (F0 m (pc + 3) ls rest)) : W p l e R s m args below meth c H locs cells slots Q (F0 m pc ls st) := by
  obtain ⟨hF, hpre⟩ := pre_cut (av := .ref b :: As) hK hX hP hD hS hA hpk
  refine va_callv (va_runV (As := As) (rest := rest) F (hM H.size) cw ⟨PreW_blind, va_recv hK (P_left (P_perm hpk hP)) hc he, hpre⟩ rfl hn hl hst (lv_room hW) hdg hf) hS (fun q _ h => hF q h) hF (fun u t H1 locs1 ht hvm hw hB hz1 hk1 hS1 => ?_)
  obtain ⟨hP1, hD1⟩ := hB
  rw [ht] at hP1
  obtain ⟨hP2, hD2⟩ := post_join hP hD hpk hF hk1 hP1 hD1
  rw [← fl_app] at hP2 hD2
  exact kk u hw H1 locs1 hP2 hD2 hS1
theorem cSi {S : Type} {post : Int32 → S → Prop} {bs' : S → List va_W} (F : CallFix p m c cc nL s args Ts own) (hM : CTi l y w rm D ty As bsc post bs') (cw : CallB R s args own index y bytes maxL ret w rm rm.cells rm.slots n ∧ (Cond.static y).before args s = true)
    (hK : va_K D vwCl (tyL ty) s) (hX : CX A s s.heap) (hP : va_P D vwCl (fl bs) H) (hD : va_D A (fl bs)) (hS : va_S A s.heap H locs) (hA : ∀ q, s.heap.size ≤ q → A q) (hpk : (fl bs).Perm (fl bsc ++ fl bsr))
    (hn : As.length = n) (hl : ls.size = nL) (hst : st = As.reverse ++ rest) (hW : (rest.map fun v => v.category).sum ≤ 8) (hdg : decode cc pc = .ok (.invokestatic index, 3)) (hf : cells + rm.cells ≤ R.cells ∧ slots + rm.slots ≤ R.slots)
    (kk : ∀ (r : Int32) (u : S), post r u → ∀ (H1 : Heap) (locs1 : List Loc), va_P D vwCl (fl (bs' u ++ bsr)) H1 → va_D A (fl (bs' u ++ bsr)) → va_S A s.heap H1 locs1 → W p l e R s m args below meth c H1 locs1 (cells + rm.cells) (slots + rm.slots) Q (F0 m (pc + 3) ls (.int r :: rest))) : W p l e R s m args below meth c H locs cells slots Q (F0 m pc ls st) := by
  obtain ⟨hF, hpre⟩ := pre_cut (av := As) hK hX hP hD hS hA hpk
  refine va_calli (va_runS (As := As) (rest := rest) F (hM H.size) cw ⟨PreW_blind, hpre⟩ rfl hn hl hst (lv_room hW) hdg hf) hS (fun q _ h => hF q h) hF (fun r u t H1 locs1 ht hvm hw hB hz1 hk1 hS1 => ?_)
  obtain ⟨hP1, hD1⟩ := hB
  rw [ht] at hP1
  obtain ⟨hP2, hD2⟩ := post_join hP hD hpk hF hk1 hP1 hD1
  rw [← fl_app] at hP2 hD2
  exact kk r u hw H1 locs1 hP2 hD2 hS1
theorem cSv {S : Type} {post : S → Prop} {bs' : S → List va_W} (F : CallFix p m c cc nL s args Ts own) (hM : CTv l y w rm D ty As bsc post bs') (cw : CallB R s args own index y bytes maxL ret w rm rm.cells rm.slots n ∧ (Cond.static y).before args s = true)
    (hK : va_K D vwCl (tyL ty) s) (hX : CX A s s.heap) (hP : va_P D vwCl (fl bs) H) (hD : va_D A (fl bs)) (hS : va_S A s.heap H locs) (hA : ∀ q, s.heap.size ≤ q → A q) (hpk : (fl bs).Perm (fl bsc ++ fl bsr))
    (hn : As.length = n) (hl : ls.size = nL) (hst : st = As.reverse ++ rest) (hW : (rest.map fun v => v.category).sum ≤ 8) (hdg : decode cc pc = .ok (.invokestatic index, 3)) (hf : cells + rm.cells ≤ R.cells ∧ slots + rm.slots ≤ R.slots)
    (kk : ∀ (u : S), post u → ∀ (H1 : Heap) (locs1 : List Loc), va_P D vwCl (fl (bs' u ++ bsr)) H1 → va_D A (fl (bs' u ++ bsr)) → va_S A s.heap H1 locs1 → W p l e R s m args below meth c H1 locs1 (cells + rm.cells) (slots + rm.slots) Q (F0 m (pc + 3) ls rest)) : W p l e R s m args below meth c H locs cells slots Q (F0 m pc ls st) := by
  obtain ⟨hF, hpre⟩ := pre_cut (av := As) hK hX hP hD hS hA hpk
  refine va_callv (va_runS (As := As) (rest := rest) F (hM H.size) cw ⟨PreW_blind, hpre⟩ rfl hn hl hst (lv_room hW) hdg hf) hS (fun q _ h => hF q h) hF (fun u t H1 locs1 ht hvm hw hB hz1 hk1 hS1 => ?_)
  obtain ⟨hP1, hD1⟩ := hB
  rw [ht] at hP1
  obtain ⟨hP2, hD2⟩ := post_join hP hD hpk hF hk1 hP1 hD1
  rw [← fl_app] at hP2 hD2
  exact kk u hw H1 locs1 hP2 hD2 hS1
end KC
section KD
variable {l : Launch} {y : MethodName} {w w' : List Cond} {rm : Room} {D : va_G} {ty : Nat → ClassId} {av : List Value} {bs : List va_W} {S : Type}
/-- a contract, from its body: what the body may use, and what it owes at its end -/
abbrev Body0 (l : Launch) (y : MethodName) (w : List Cond) (rm : Room) (D : va_G) (ty : Nat → ClassId) (av : List Value) (bs : List va_W) (cc : ByteArray) (maxL : Nat) (ret : Option FieldType) (Qx : (Nat → Prop) → Array Value → State → Outcome → State → Prop) : Prop :=
  ∀ (p : Program) (e : Env) (s : State) (m : MethodId) (args : Array Value) (below : List Frame) (meth : Method) (c : Code) (A : Nat → Prop), p.tables.exec = Jvm.exec → c.code = cc → meth.sig.returnType = ret → c.maxLocals = maxL → s.vm.findClass y.cls = some m.cls → meth.locks = false → meth.name = y.name → (∀ z ∈ w, z.before args s = true) → (∀ q, s.heap.size ≤ q → A q) → CX A s s.heap → va_K D vwCl (tyL ty) s → va_P D vwCl (fl bs) s.heap → va_D A (fl bs) → ∀ ls : Array Slot, lv_has ls maxL (lv_args 0 av) →
    W p l e rm s m args below meth c s.heap [] 0 0 (MQ below (Qx A) args s rm.cells rm.slots A) (F0 m 0 ls [])
theorem met_of {cc : ByteArray} {maxL : Nat} {ret : Option FieldType} {Qx : (Nat → Prop) → Array Value → State → Outcome → State → Prop} (hy : plainName y.cls = true) (hw : w = Cond.code y cc maxL ret :: w') (hfit : (lg_sl av).length ≤ maxL) (body : Body0 l y w rm D ty av bs cc maxL ret Qx) :
    ∀ sz, Met l y w rm (va_Pc av (PreW D ty bs sz)) (Qx (va_A (fl bs) sz)) rm.cells rm.slots (va_A (fl bs) sz) := by
  intro sz
  refine Met.ofW (cc := cc) (maxL := maxL) (ret := ret) hy hw ?_
  intro p e s m args below meth c s₁ B hml hv
  obtain ⟨rfl, hsz, hP, hK, hD0, hX⟩ := hv
  subst hsz
  have hD := hD0.self (sz := s.heap.size)
  have hl := lv_entry av hfit
  rw [lg_entry_eq]
  exact body p e s m av.toArray below meth c _ B.exec B.bytes B.returns hml (findClass_of_methodNamed B.named) B.notSynchronized (name_of_methodNamed B.named B.method).1 (atoms_spec (ws := w) B.pre) (fun q h => Or.inr h) hX hK hP hD _ hl
theorem CTi_of {post : Int32 → S → Prop} {bs' : S → List va_W} (cc : ByteArray) (maxL : Nat) (ret : Option FieldType) (hy : plainName y.cls = true) (hw : w = Cond.code y cc maxL ret :: w') (hfit : (lg_sl av).length ≤ maxL) (body : Body0 l y w rm D ty av bs cc maxL ret (fun A => va_Qi post (PostW D bs' A) A)) : CTi l y w rm D ty av bs post bs' := met_of (Qx := fun A => va_Qi post (PostW D bs' A) A) hy hw hfit body
theorem CTl_of {post : Int64 → S → Prop} {bs' : S → List va_W} (cc : ByteArray) (maxL : Nat) (ret : Option FieldType) (hy : plainName y.cls = true) (hw : w = Cond.code y cc maxL ret :: w') (hfit : (lg_sl av).length ≤ maxL) (body : Body0 l y w rm D ty av bs cc maxL ret (fun A => va_Ql post (PostW D bs' A) A)) : CTl l y w rm D ty av bs post bs' := met_of (Qx := fun A => va_Ql post (PostW D bs' A) A) hy hw hfit body
theorem CTv_of {post : S → Prop} {bs' : S → List va_W} (cc : ByteArray) (maxL : Nat) (ret : Option FieldType) (hy : plainName y.cls = true) (hw : w = Cond.code y cc maxL ret :: w') (hfit : (lg_sl av).length ≤ maxL) (body : Body0 l y w rm D ty av bs cc maxL ret (fun A => va_Qv post (PostW D bs' A) A)) : CTv l y w rm D ty av bs post bs' := met_of (Qx := fun A => va_Qv post (PostW D bs' A) A) hy hw hfit body
end KD
section KE
variable {p : Program} {l : Launch} {e : Env} {R : Room} {s : State} {m : MethodId} {args : Array Value} {below : List Frame} {meth : Method} {c : Code} {H : Heap} {locs : List Loc} {cells slots mc ms : Nat}
variable {cc : ByteArray} {pc : Nat} {ls : Array Slot} {D : va_G} {A : Nat → Prop} {S : Type} {bs' : S → List va_W}
theorem end_i {post : Int32 → S → Prop} {v : Int32} (u : S) (hx : p.tables.exec = Jvm.exec) (hb : c.code = cc) (hr : meth.sig.returnType = some .int) (hlocks : meth.locks = false) (hP : va_P D vwCl (fl (bs' u)) H) (hD : va_D A (fl (bs' u))) (hS : va_S A s.heap H locs) (hp : post v u) (hc : cells ≤ mc) (hs : slots ≤ ms) (hdg : decode cc pc = .ok (.ireturn, 1)) :
    W p l e R s m args below meth c H locs cells slots (MQ below (va_Qi post (PostW D bs' A) A) args s mc ms A) (F0 m pc ls [.int v]) :=
  W.widen hc hs (W.iret (hlocks := hlocks) hx hb hr (fun t ht hW => ⟨⟨v, u, rfl, hp, by rw [ht]; exact hP, hD⟩, hS.F ht⟩) hS.2.2 hdg)
theorem end_z {post : Int32 → S → Prop} {v : Int32} (u : S) (hx : p.tables.exec = Jvm.exec) (hb : c.code = cc) (hr : meth.sig.returnType = some .boolean) (hlocks : meth.locks = false) (hn : narrow .boolean (.int v) = .int v) (hP : va_P D vwCl (fl (bs' u)) H) (hD : va_D A (fl (bs' u))) (hS : va_S A s.heap H locs) (hp : post v u) (hc : cells ≤ mc) (hs : slots ≤ ms) (hdg : decode cc pc = .ok (.ireturn, 1)) :
    W p l e R s m args below meth c H locs cells slots (MQ below (va_Qi post (PostW D bs' A) A) args s mc ms A) (F0 m pc ls [.int v]) :=
  W.widen hc hs (W.zret (hlocks := hlocks) hx hb hr hn (fun t ht hW => ⟨⟨v, u, rfl, hp, by rw [ht]; exact hP, hD⟩, hS.F ht⟩) hS.2.2 hdg)
theorem end_l {post : Int64 → S → Prop} {v : Int64} (u : S) (hx : p.tables.exec = Jvm.exec) (hb : c.code = cc) (hr : meth.sig.returnType = some .long) (hlocks : meth.locks = false) (hP : va_P D vwCl (fl (bs' u)) H) (hD : va_D A (fl (bs' u))) (hS : va_S A s.heap H locs) (hp : post v u) (hc : cells ≤ mc) (hs : slots ≤ ms) (hdg : decode cc pc = .ok (.lreturn, 1)) :
    W p l e R s m args below meth c H locs cells slots (MQ below (va_Ql post (PostW D bs' A) A) args s mc ms A) (F0 m pc ls [.long v]) :=
  W.widen hc hs (W.lret (hlocks := hlocks) hx hb hr (fun t ht hW => ⟨⟨v, u, rfl, hp, by rw [ht]; exact hP, hD⟩, hS.F ht⟩) hS.2.2 hdg)
theorem end_v {post : S → Prop} (u : S) (hx : p.tables.exec = Jvm.exec) (hb : c.code = cc) (hr : meth.sig.returnType = none) (hlocks : meth.locks = false) (hP : va_P D vwCl (fl (bs' u)) H) (hD : va_D A (fl (bs' u))) (hS : va_S A s.heap H locs) (hp : post u) (hc : cells ≤ mc) (hs : slots ≤ ms) (hdg : decode cc pc = .ok (.return_, 1)) :
    W p l e R s m args below meth c H locs cells slots (MQ below (va_Qv post (PostW D bs' A) A) args s mc ms A) (F0 m pc ls []) :=
  W.widen hc hs (W.vret (hlocks := hlocks) hx hb hr (fun t ht hW => ⟨⟨u, rfl, hp, by rw [ht]; exact hP, hD⟩, hS.F ht⟩) hS.2.2 hdg)
end KE
