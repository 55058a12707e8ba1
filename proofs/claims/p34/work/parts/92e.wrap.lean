set_option maxHeartbeats 4000000 in
set_option maxRecDepth 100000 in
theorem c_T_dueAfter_n0 (l : Launch) (D : va_G) (ty : Nat → ClassId) (i9 : Int32) (bc tx hi sl : Nat) (b : Nat → Nat) (a : Nat → Nat) (r : Nat → Int32) (x y : Int64) (g : Nat → Nat → Int32) (r2 : Nat → Int32) (x2 y2 : Int64) (g2 : Nat → Nat → Int32) (hst : l.stackTraces = false) (hw : Iw r) (hc0 : ¬ (inI i9 4)) : CTi l yL_tryDueAfter wsL_tryDueAfter ({ frames := 8, cells := 1, slots := 6, locals := 126 }) D ty [.ref bc, .int i9] [[ob bc 8 [.ref tx, .ref (a 0), .ref (b 0), .ref hi, .ref sl]], (stW ty a r x y g), (stW ty b r2 x2 y2 g2)] (fun (RET : Int32) (_ : Unit) => RET = (-999999001)) (fun (_ : Unit) => [[ob bc 8 [.ref tx, .ref (a 0), .ref (b 0), .ref hi, .ref sl]], (stW ty a r x y g), (stW ty b r2 x2 y2 g2)]) := by
  refine CTi_ofH cL_tryDueAfter 3 (some .int) [(0, 5, 6, 29)] (by decide) rfl (Nat.le_of_ble_eq_true rfl) ?_
  intro p e s m args below meth c A hx hb hr hml hown hlocks hin hts hA hX hK hP hD ht0 ls hl
  have hown : s.vm.findClass RL = some m.cls := hown
  have hS : va_S A s.heap s.heap [] := va_S.rf
  have hl : lv_has ls 3 [(0, .ref bc), (1, .int i9)] := hl
  refine lv_aload_n hx hb dL_tryDueAfter_0 rfl (lv_at hl 0 rfl) ?_
  refine lv_iload_n hx hb dL_tryDueAfter_1 rfl (lv_at hl 1 rfl) ?_
  refine cVxi (As := [.int i9]) (rest := []) ⟨hx, hb, hml, hown, hts⟩ (c_X9_dueAfter l D ty i9 bc tx hi sl b a r x y g r2 x2 y2 g2 hst hw) (cwV 1 hts gL_tryDueAfter_X9_dueAfter rfl rfl rfl (by decide +kernel) ⟨Nat.le_of_ble_eq_true rfl, Nat.le_of_ble_eq_true rfl⟩) hK hX hP hD hS hA (pk (bs := [[ob bc 8 [.ref tx, .ref (a 0), .ref (b 0), .ref hi, .ref sl]], (stW ty a r x y g), (stW ty b r2 x2 y2 g2)]) (bsc := [[ob bc 8 [.ref tx, .ref (a 0), .ref (b 0), .ref hi, .ref sl]], (stW ty a r x y g), (stW ty b r2 x2 y2 g2)]) (bsr := []) [0, 1, 2] [] 3 rfl (by decide +kernel) rfl rfl) (ci := 8) rfl 0 rfl rfl hl.1 rfl (Nat.le_of_ble_eq_true rfl) dL_tryDueAfter_2 ⟨Nat.le_of_ble_eq_true rfl, Nat.le_of_ble_eq_true rfl⟩ (fun E hE ce q9 H locs hP hD hS hce hcv hcl => ?_) (fun r9 u9 h9 H locs hP hD hS => ?_)
  · skip
    obtain ⟨hEE, h0⟩ := hE
    subst hEE
    have hP : va_P D vwCl (fl [[ob bc 8 [.ref tx, .ref (a 0), .ref (b 0), .ref hi, .ref sl]], (stW ty a r x y g), (stW ty b r2 x2 y2 g2)]) H := by rw [List.append_nil] at hP; exact hP
    have hD : va_D A (fl [[ob bc 8 [.ref tx, .ref (a 0), .ref (b 0), .ref hi, .ref sl]], (stW ty a r x y g), (stW ty b r2 x2 y2 g2)]) := by rw [List.append_nil] at hD; exact hD
    refine vx_catch (own := RL) (name := EIO) (E := EIO) hown [] ⟨0, 5, 6, 29⟩ [] (ht0.trans rfl) (fun z hz => by cases hz) (by decide) (by decide) (hts (Cond.classLink RL 29 "java/lang/IndexOutOfBoundsException") (List.mem_of_getElem? (i := 1) rfl)) (va_Nw.use rfl hX.1.2.2.1.2.2) hce hcv hcl ?_
    refine lv_astore_n (lv' := [(2, .ref q9), (0, .ref bc), (1, .int i9)]) hx hb dL_tryDueAfter_6 rfl hl (by decide) rfl (fun ls hl => ?_)
    refine lv_ldc hx hb hown (hts (Cond.constant RL 31 (-999999001)) (List.mem_of_getElem? (i := 2) rfl)) dL_tryDueAfter_7 ?_
    have hP : va_P D vwCl (fl [[ob bc 8 [.ref tx, .ref (a 0), .ref (b 0), .ref hi, .ref sl]], (stW ty a r x y g), (stW ty b r2 x2 y2 g2)]) H := hP
    have hD : va_D A (fl [[ob bc 8 [.ref tx, .ref (a 0), .ref (b 0), .ref hi, .ref sl]], (stW ty a r x y g), (stW ty b r2 x2 y2 g2)]) := hD
    exact end_i (bs' := (fun (_ : Unit) => [[ob bc 8 [.ref tx, .ref (a 0), .ref (b 0), .ref hi, .ref sl]], (stW ty a r x y g), (stW ty b r2 x2 y2 g2)])) () hx hb hr hlocks hP hD hS (by first | rfl | decide | simp []) (Nat.le_of_ble_eq_true rfl) (Nat.le_of_ble_eq_true rfl) dL_tryDueAfter_9
  · exact absurd h9.2 hc0
set_option maxHeartbeats 4000000 in
set_option maxRecDepth 100000 in
theorem c_T_undo1 (l : Launch) (D : va_G) (ty : Nat → ClassId) (bc tx hi sl : Nat) (b : Nat → Nat) (a : Nat → Nat) (r : Nat → Int32) (x y : Int64) (g : Nat → Nat → Int32) (hs cm : Nat) (ad : Nat → Nat → Nat) (ur : Nat → Nat → Int32) (ux uy : Nat → Int64) (ug : Nat → Nat → Nat → Int32) (hst : l.stackTraces = false) (hc : cm < 14) : CTi l yL_tryUndo wsL_tryUndo ({ frames := 5, cells := 0, slots := 0, locals := 116 }) D ty [.ref bc] [[ob bc 8 [.ref tx, .ref (a 0), .ref (b 0), .ref hi, .ref sl]], [ob hi 2 [.ref hs, .int (nI (cm + 1))]], [sa ty hs 14 (fun k => some (ad k 0))], (stW ty a r x y g), (hsW ty ad ur ux uy ug)] (fun (RET : Int32) (_ : Unit) => RET = (nI cm)) (fun (_ : Unit) => [[ob bc 8 [.ref tx, .ref (a 0), .ref (b 0), .ref hi, .ref sl]], [ob hi 2 [.ref hs, .int (nI cm)]], [sa ty hs 14 (fun k => some (ad k 0))], (stW ty a (ur cm) (ux cm) (uy cm) (ug cm)), (hsW ty ad ur ux uy ug)]) := by
  refine CTi_ofH cL_tryUndo 2 (some .int) [(0, 4, 5, 16)] (by decide) rfl (Nat.le_of_ble_eq_true rfl) ?_
  intro p e s m args below meth c A hx hb hr hml hown hlocks hin hts hA hX hK hP hD ht0 ls hl
  have hown : s.vm.findClass RL = some m.cls := hown
  have hS : va_S A s.heap s.heap [] := va_S.rf
  have hl : lv_has ls 2 [(0, .ref bc)] := hl
  refine lv_aload_n hx hb dL_tryUndo_0 rfl (lv_at hl 0 rfl) ?_
  refine cVxi (As := []) (rest := []) ⟨hx, hb, hml, hown, hts⟩ (c_X9_undo1 l D ty bc tx hi sl b a r x y g hs cm ad ur ux uy ug hst hc) (cwV 0 hts gL_tryUndo_X9_undo rfl rfl rfl (by decide +kernel) ⟨Nat.le_of_ble_eq_true rfl, Nat.le_of_ble_eq_true rfl⟩) hK hX hP hD hS hA (pk (bs := [[ob bc 8 [.ref tx, .ref (a 0), .ref (b 0), .ref hi, .ref sl]], [ob hi 2 [.ref hs, .int (nI (cm + 1))]], [sa ty hs 14 (fun k => some (ad k 0))], (stW ty a r x y g), (hsW ty ad ur ux uy ug)]) (bsc := [[ob bc 8 [.ref tx, .ref (a 0), .ref (b 0), .ref hi, .ref sl]], [ob hi 2 [.ref hs, .int (nI (cm + 1))]], [sa ty hs 14 (fun k => some (ad k 0))], (stW ty a r x y g), (hsW ty ad ur ux uy ug)]) (bsr := []) [0, 1, 2, 3, 4] [] 5 rfl (by decide +kernel) rfl rfl) (ci := 8) rfl 0 rfl rfl hl.1 rfl (Nat.le_of_ble_eq_true rfl) dL_tryUndo_1 ⟨Nat.le_of_ble_eq_true rfl, Nat.le_of_ble_eq_true rfl⟩ (fun E hE ce q9 H locs hP hD hS hce hcv hcl => ?_) (fun r9 u9 h9 H locs hP hD hS => ?_)
  · skip
    exact hE.elim
  · skip
    have hP : va_P D vwCl (fl [[ob bc 8 [.ref tx, .ref (a 0), .ref (b 0), .ref hi, .ref sl]], [ob hi 2 [.ref hs, .int (nI cm)]], [sa ty hs 14 (fun k => some (ad k 0))], (stW ty a (ur cm) (ux cm) (uy cm) (ug cm)), (hsW ty ad ur ux uy ug)]) H := by rw [List.append_nil] at hP; exact hP
    have hD : va_D A (fl [[ob bc 8 [.ref tx, .ref (a 0), .ref (b 0), .ref hi, .ref sl]], [ob hi 2 [.ref hs, .int (nI cm)]], [sa ty hs 14 (fun k => some (ad k 0))], (stW ty a (ur cm) (ux cm) (uy cm) (ug cm)), (hsW ty ad ur ux uy ug)]) := by rw [List.append_nil] at hD; exact hD
    have h8 : r9 = (nI cm) := h9.1
    subst h8
    have hP : va_P D vwCl (fl [[ob bc 8 [.ref tx, .ref (a 0), .ref (b 0), .ref hi, .ref sl]], [ob hi 2 [.ref hs, .int (nI cm)]], [sa ty hs 14 (fun k => some (ad k 0))], (stW ty a (ur cm) (ux cm) (uy cm) (ug cm)), (hsW ty ad ur ux uy ug)]) H := hP
    have hD : va_D A (fl [[ob bc 8 [.ref tx, .ref (a 0), .ref (b 0), .ref hi, .ref sl]], [ob hi 2 [.ref hs, .int (nI cm)]], [sa ty hs 14 (fun k => some (ad k 0))], (stW ty a (ur cm) (ux cm) (uy cm) (ug cm)), (hsW ty ad ur ux uy ug)]) := hD
    exact end_i (bs' := (fun (_ : Unit) => [[ob bc 8 [.ref tx, .ref (a 0), .ref (b 0), .ref hi, .ref sl]], [ob hi 2 [.ref hs, .int (nI cm)]], [sa ty hs 14 (fun k => some (ad k 0))], (stW ty a (ur cm) (ux cm) (uy cm) (ug cm)), (hsW ty ad ur ux uy ug)])) () hx hb hr hlocks hP hD hS (by first | rfl | decide | simp []) (Nat.le_of_ble_eq_true rfl) (Nat.le_of_ble_eq_true rfl) dL_tryUndo_4
set_option maxHeartbeats 4000000 in
set_option maxRecDepth 100000 in
theorem c_T_undo0_n0 (l : Launch) (D : va_G) (ty : Nat → ClassId) (bc tx hi sl : Nat) (b : Nat → Nat) (a : Nat → Nat) (hs : Nat) (hst : l.stackTraces = false) : CTi l yL_tryUndo wsL_tryUndo ({ frames := 7, cells := 1, slots := 6, locals := 102 }) D ty [.ref bc] [[ob bc 8 [.ref tx, .ref (a 0), .ref (b 0), .ref hi, .ref sl]], [ob hi 2 [.ref hs, .int 0]]] (fun (RET : Int32) (_ : Unit) => RET = (-999999003)) (fun (_ : Unit) => [[ob bc 8 [.ref tx, .ref (a 0), .ref (b 0), .ref hi, .ref sl]], [ob hi 2 [.ref hs, .int 0]]]) := by
  refine CTi_ofH cL_tryUndo 2 (some .int) [(0, 4, 5, 16)] (by decide) rfl (Nat.le_of_ble_eq_true rfl) ?_
  intro p e s m args below meth c A hx hb hr hml hown hlocks hin hts hA hX hK hP hD ht0 ls hl
  have hown : s.vm.findClass RL = some m.cls := hown
  have hS : va_S A s.heap s.heap [] := va_S.rf
  have hl : lv_has ls 2 [(0, .ref bc)] := hl
  refine lv_aload_n hx hb dL_tryUndo_0 rfl (lv_at hl 0 rfl) ?_
  refine cVxi (As := []) (rest := []) ⟨hx, hb, hml, hown, hts⟩ (c_X9_undo0 l D ty bc tx hi sl b a hs hst) (cwV 0 hts gL_tryUndo_X9_undo rfl rfl rfl (by decide +kernel) ⟨Nat.le_of_ble_eq_true rfl, Nat.le_of_ble_eq_true rfl⟩) hK hX hP hD hS hA (pk (bs := [[ob bc 8 [.ref tx, .ref (a 0), .ref (b 0), .ref hi, .ref sl]], [ob hi 2 [.ref hs, .int 0]]]) (bsc := [[ob bc 8 [.ref tx, .ref (a 0), .ref (b 0), .ref hi, .ref sl]], [ob hi 2 [.ref hs, .int 0]]]) (bsr := []) [0, 1] [] 2 rfl (by decide +kernel) rfl rfl) (ci := 8) rfl 0 rfl rfl hl.1 rfl (Nat.le_of_ble_eq_true rfl) dL_tryUndo_1 ⟨Nat.le_of_ble_eq_true rfl, Nat.le_of_ble_eq_true rfl⟩ (fun E hE ce q9 H locs hP hD hS hce hcv hcl => ?_) (fun r9 u9 h9 H locs hP hD hS => ?_)
  · skip
    have hEE : E = EIS := hE
    subst hEE
    have hP : va_P D vwCl (fl [[ob bc 8 [.ref tx, .ref (a 0), .ref (b 0), .ref hi, .ref sl]], [ob hi 2 [.ref hs, .int 0]]]) H := by rw [List.append_nil] at hP; exact hP
    have hD : va_D A (fl [[ob bc 8 [.ref tx, .ref (a 0), .ref (b 0), .ref hi, .ref sl]], [ob hi 2 [.ref hs, .int 0]]]) := by rw [List.append_nil] at hD; exact hD
    refine vx_catch (own := RL) (name := EIS) (E := EIS) hown [] ⟨0, 4, 5, 16⟩ [] (ht0.trans rfl) (fun z hz => by cases hz) (by decide) (by decide) (hts (Cond.classLink RL 16 "java/lang/IllegalStateException") (List.mem_of_getElem? (i := 1) rfl)) (va_Nw.use rfl hX.1.2.2.1.2.1) hce hcv hcl ?_
    refine lv_astore_n (lv' := [(1, .ref q9), (0, .ref bc)]) hx hb dL_tryUndo_5 rfl hl (by decide) rfl (fun ls hl => ?_)
    refine lv_ldc hx hb hown (hts (Cond.constant RL 18 (-999999003)) (List.mem_of_getElem? (i := 2) rfl)) dL_tryUndo_6 ?_
    have hP : va_P D vwCl (fl [[ob bc 8 [.ref tx, .ref (a 0), .ref (b 0), .ref hi, .ref sl]], [ob hi 2 [.ref hs, .int 0]]]) H := hP
    have hD : va_D A (fl [[ob bc 8 [.ref tx, .ref (a 0), .ref (b 0), .ref hi, .ref sl]], [ob hi 2 [.ref hs, .int 0]]]) := hD
    exact end_i (bs' := (fun (_ : Unit) => [[ob bc 8 [.ref tx, .ref (a 0), .ref (b 0), .ref hi, .ref sl]], [ob hi 2 [.ref hs, .int 0]]])) () hx hb hr hlocks hP hD hS (by first | rfl | decide | simp []) (Nat.le_of_ble_eq_true rfl) (Nat.le_of_ble_eq_true rfl) dL_tryUndo_8
  · exact h9.2.elim
set_option maxHeartbeats 4000000 in
set_option maxRecDepth 100000 in
theorem c_T_runScript1 (l : Launch) (D : va_G) (ty : Nat → ClassId) (wn : Nat) (bc tx hi sl : Nat) (b : Nat → Nat) (a : Nat → Nat) (r : Nat → Int32) (x y : Int64) (g : Nat → Nat → Int32) (r2 : Nat → Int32) (x2 y2 : Int64) (g2 : Nat → Nat → Int32) (hst : l.stackTraces = false) (hwn : wn < 2 ^ 63) (hp : Pw r) (hc0 : wn < 100000) : CTi l yL_tryScript wsL_tryScript ({ frames := 8, cells := 2, slots := 12, locals := 176 }) D ty [.ref bc, .int 1, .long (lN wn)] [[ob bc 8 [.ref tx, .ref (a 0), .ref (b 0), .ref hi, .ref sl]], (stW ty a r x y g), (stW ty b r2 x2 y2 g2)] (fun (RET : Int32) (_ : Unit) => RET = (scV 0 [wn % 100000] r)) (fun (_ : Unit) => [[ob bc 8 [.ref tx, .ref (a 0), .ref (b 0), .ref hi, .ref sl]], (stW ty a r x y g), (stW ty b (scR [wn % 100000] r) (scX [wn % 100000] r x) (scY [wn % 100000] r y) (scG [wn % 100000] r g))]) := by
  refine CTi_ofH cL_tryScript 5 (some .int) [(0, 6, 7, 13)] (by decide) rfl (Nat.le_of_ble_eq_true rfl) ?_
  intro p e s m args below meth c A hx hb hr hml hown hlocks hin hts hA hX hK hP hD ht0 ls hl
  have hown : s.vm.findClass RL = some m.cls := hown
  have hS : va_S A s.heap s.heap [] := va_S.rf
  have hl : lv_has ls 5 [(0, .ref bc), (1, .int 1), (2, .long (lN wn))] := hl
  refine lv_aload_n hx hb dL_tryScript_0 rfl (lv_at hl 0 rfl) ?_
  refine lv_iload_n hx hb dL_tryScript_1 rfl (lv_at hl 1 rfl) ?_
  refine lv_lload_n hx hb dL_tryScript_2 rfl (lv_at hl 2 rfl) ?_
  refine cVxi (As := [.int 1, .long (lN wn)]) (rest := []) ⟨hx, hb, hml, hown, hts⟩ (c_X9_runScript1 l D ty wn bc tx hi sl b a r x y g r2 x2 y2 g2 hst hwn hp) (cwV 2 hts gL_tryScript_X9_runScript rfl rfl rfl (by decide +kernel) ⟨Nat.le_of_ble_eq_true rfl, Nat.le_of_ble_eq_true rfl⟩) hK hX hP hD hS hA (pk (bs := [[ob bc 8 [.ref tx, .ref (a 0), .ref (b 0), .ref hi, .ref sl]], (stW ty a r x y g), (stW ty b r2 x2 y2 g2)]) (bsc := [[ob bc 8 [.ref tx, .ref (a 0), .ref (b 0), .ref hi, .ref sl]], (stW ty a r x y g), (stW ty b r2 x2 y2 g2)]) (bsr := []) [0, 1, 2] [] 3 rfl (by decide +kernel) rfl rfl) (ci := 8) rfl 0 rfl rfl hl.1 rfl (Nat.le_of_ble_eq_true rfl) dL_tryScript_3 ⟨Nat.le_of_ble_eq_true rfl, Nat.le_of_ble_eq_true rfl⟩ (fun E hE ce q9 H locs hP hD hS hce hcv hcl => ?_) (fun r9 u9 h9 H locs hP hD hS => ?_)
  · skip
    obtain ⟨hEE, h0⟩ := hE
    exact absurd hc0 h0
  · skip
    have hP : va_P D vwCl (fl [[ob bc 8 [.ref tx, .ref (a 0), .ref (b 0), .ref hi, .ref sl]], (stW ty a r x y g), (stW ty b (scR [wn % 100000] r) (scX [wn % 100000] r x) (scY [wn % 100000] r y) (scG [wn % 100000] r g))]) H := by rw [List.append_nil] at hP; exact hP
    have hD : va_D A (fl [[ob bc 8 [.ref tx, .ref (a 0), .ref (b 0), .ref hi, .ref sl]], (stW ty a r x y g), (stW ty b (scR [wn % 100000] r) (scX [wn % 100000] r x) (scY [wn % 100000] r y) (scG [wn % 100000] r g))]) := by rw [List.append_nil] at hD; exact hD
    have h8 : r9 = (scV 0 [wn % 100000] r) := h9.1
    subst h8
    have hP : va_P D vwCl (fl [[ob bc 8 [.ref tx, .ref (a 0), .ref (b 0), .ref hi, .ref sl]], (stW ty a r x y g), (stW ty b (scR [wn % 100000] r) (scX [wn % 100000] r x) (scY [wn % 100000] r y) (scG [wn % 100000] r g))]) H := hP
    have hD : va_D A (fl [[ob bc 8 [.ref tx, .ref (a 0), .ref (b 0), .ref hi, .ref sl]], (stW ty a r x y g), (stW ty b (scR [wn % 100000] r) (scX [wn % 100000] r x) (scY [wn % 100000] r y) (scG [wn % 100000] r g))]) := hD
    exact end_i (bs' := (fun (_ : Unit) => [[ob bc 8 [.ref tx, .ref (a 0), .ref (b 0), .ref hi, .ref sl]], (stW ty a r x y g), (stW ty b (scR [wn % 100000] r) (scX [wn % 100000] r x) (scY [wn % 100000] r y) (scG [wn % 100000] r g))])) () hx hb hr hlocks hP hD hS (by first | rfl | decide | simp []) (Nat.le_of_ble_eq_true rfl) (Nat.le_of_ble_eq_true rfl) dL_tryScript_6
set_option maxHeartbeats 4000000 in
set_option maxRecDepth 100000 in
theorem c_T_runScript1_n0 (l : Launch) (D : va_G) (ty : Nat → ClassId) (wn : Nat) (bc tx hi sl : Nat) (b : Nat → Nat) (a : Nat → Nat) (r : Nat → Int32) (x y : Int64) (g : Nat → Nat → Int32) (r2 : Nat → Int32) (x2 y2 : Int64) (g2 : Nat → Nat → Int32) (hst : l.stackTraces = false) (hwn : wn < 2 ^ 63) (hp : Pw r) (hc0 : ¬ (wn < 100000)) : CTi l yL_tryScript wsL_tryScript ({ frames := 8, cells := 2, slots := 12, locals := 176 }) D ty [.ref bc, .int 1, .long (lN wn)] [[ob bc 8 [.ref tx, .ref (a 0), .ref (b 0), .ref hi, .ref sl]], (stW ty a r x y g), (stW ty b r2 x2 y2 g2)] (fun (RET : Int32) (_ : Unit) => RET = (-999999002)) (fun (_ : Unit) => [[ob bc 8 [.ref tx, .ref (a 0), .ref (b 0), .ref hi, .ref sl]], (stW ty a r x y g), (stW ty b r2 x2 y2 g2)]) := by
  refine CTi_ofH cL_tryScript 5 (some .int) [(0, 6, 7, 13)] (by decide) rfl (Nat.le_of_ble_eq_true rfl) ?_
  intro p e s m args below meth c A hx hb hr hml hown hlocks hin hts hA hX hK hP hD ht0 ls hl
  have hown : s.vm.findClass RL = some m.cls := hown
  have hS : va_S A s.heap s.heap [] := va_S.rf
  have hl : lv_has ls 5 [(0, .ref bc), (1, .int 1), (2, .long (lN wn))] := hl
  refine lv_aload_n hx hb dL_tryScript_0 rfl (lv_at hl 0 rfl) ?_
  refine lv_iload_n hx hb dL_tryScript_1 rfl (lv_at hl 1 rfl) ?_
  refine lv_lload_n hx hb dL_tryScript_2 rfl (lv_at hl 2 rfl) ?_
  refine cVxi (As := [.int 1, .long (lN wn)]) (rest := []) ⟨hx, hb, hml, hown, hts⟩ (c_X9_runScript1 l D ty wn bc tx hi sl b a r x y g r2 x2 y2 g2 hst hwn hp) (cwV 2 hts gL_tryScript_X9_runScript rfl rfl rfl (by decide +kernel) ⟨Nat.le_of_ble_eq_true rfl, Nat.le_of_ble_eq_true rfl⟩) hK hX hP hD hS hA (pk (bs := [[ob bc 8 [.ref tx, .ref (a 0), .ref (b 0), .ref hi, .ref sl]], (stW ty a r x y g), (stW ty b r2 x2 y2 g2)]) (bsc := [[ob bc 8 [.ref tx, .ref (a 0), .ref (b 0), .ref hi, .ref sl]], (stW ty a r x y g), (stW ty b r2 x2 y2 g2)]) (bsr := []) [0, 1, 2] [] 3 rfl (by decide +kernel) rfl rfl) (ci := 8) rfl 0 rfl rfl hl.1 rfl (Nat.le_of_ble_eq_true rfl) dL_tryScript_3 ⟨Nat.le_of_ble_eq_true rfl, Nat.le_of_ble_eq_true rfl⟩ (fun E hE ce q9 H locs hP hD hS hce hcv hcl => ?_) (fun r9 u9 h9 H locs hP hD hS => ?_)
  · skip
    obtain ⟨hEE, h0⟩ := hE
    subst hEE
    have hP : va_P D vwCl (fl [[ob bc 8 [.ref tx, .ref (a 0), .ref (b 0), .ref hi, .ref sl]], (stW ty a r x y g), (stW ty b r2 x2 y2 g2)]) H := by rw [List.append_nil] at hP; exact hP
    have hD : va_D A (fl [[ob bc 8 [.ref tx, .ref (a 0), .ref (b 0), .ref hi, .ref sl]], (stW ty a r x y g), (stW ty b r2 x2 y2 g2)]) := by rw [List.append_nil] at hD; exact hD
    refine vx_catch (own := RL) (name := EIA) (E := EIA) hown [] ⟨0, 6, 7, 13⟩ [] (ht0.trans rfl) (fun z hz => by cases hz) (by decide) (by decide) (hts (Cond.classLink RL 13 "java/lang/IllegalArgumentException") (List.mem_of_getElem? (i := 1) rfl)) (va_Nw.use rfl hX.1.2.2.1.1) hce hcv hcl ?_
    refine lv_astore (lv' := [(4, .ref q9), (0, .ref bc), (1, .int 1), (2, .long (lN wn))]) hx hb dL_tryScript_7 hl (by decide) rfl (fun ls hl => ?_)
    refine lv_ldc hx hb hown (hts (Cond.constant RL 15 (-999999002)) (List.mem_of_getElem? (i := 2) rfl)) dL_tryScript_9 ?_
    have hP : va_P D vwCl (fl [[ob bc 8 [.ref tx, .ref (a 0), .ref (b 0), .ref hi, .ref sl]], (stW ty a r x y g), (stW ty b r2 x2 y2 g2)]) H := hP
    have hD : va_D A (fl [[ob bc 8 [.ref tx, .ref (a 0), .ref (b 0), .ref hi, .ref sl]], (stW ty a r x y g), (stW ty b r2 x2 y2 g2)]) := hD
    exact end_i (bs' := (fun (_ : Unit) => [[ob bc 8 [.ref tx, .ref (a 0), .ref (b 0), .ref hi, .ref sl]], (stW ty a r x y g), (stW ty b r2 x2 y2 g2)])) () hx hb hr hlocks hP hD hS (by first | rfl | decide | simp []) (Nat.le_of_ble_eq_true rfl) (Nat.le_of_ble_eq_true rfl) dL_tryScript_11
  · exact absurd h9.2 hc0
set_option maxHeartbeats 4000000 in
set_option maxRecDepth 100000 in
theorem c_T_runScript2 (l : Launch) (D : va_G) (ty : Nat → ClassId) (wn : Nat) (bc tx hi sl : Nat) (b : Nat → Nat) (a : Nat → Nat) (r : Nat → Int32) (x y : Int64) (g : Nat → Nat → Int32) (r2 : Nat → Int32) (x2 y2 : Int64) (g2 : Nat → Nat → Int32) (hst : l.stackTraces = false) (hwn : wn < 2 ^ 63) (hp : Pw r) (hc0 : wn < 10000000000) : CTi l yL_tryScript wsL_tryScript ({ frames := 8, cells := 2, slots := 12, locals := 176 }) D ty [.ref bc, .int 2, .long (lN wn)] [[ob bc 8 [.ref tx, .ref (a 0), .ref (b 0), .ref hi, .ref sl]], (stW ty a r x y g), (stW ty b r2 x2 y2 g2)] (fun (RET : Int32) (_ : Unit) => RET = (scV 0 [wn / 100000 % 100000, wn % 100000] r)) (fun (_ : Unit) => [[ob bc 8 [.ref tx, .ref (a 0), .ref (b 0), .ref hi, .ref sl]], (stW ty a r x y g), (stW ty b (scR [wn / 100000 % 100000, wn % 100000] r) (scX [wn / 100000 % 100000, wn % 100000] r x) (scY [wn / 100000 % 100000, wn % 100000] r y) (scG [wn / 100000 % 100000, wn % 100000] r g))]) := by
  refine CTi_ofH cL_tryScript 5 (some .int) [(0, 6, 7, 13)] (by decide) rfl (Nat.le_of_ble_eq_true rfl) ?_
  intro p e s m args below meth c A hx hb hr hml hown hlocks hin hts hA hX hK hP hD ht0 ls hl
  have hown : s.vm.findClass RL = some m.cls := hown
  have hS : va_S A s.heap s.heap [] := va_S.rf
  have hl : lv_has ls 5 [(0, .ref bc), (1, .int 2), (2, .long (lN wn))] := hl
  refine lv_aload_n hx hb dL_tryScript_0 rfl (lv_at hl 0 rfl) ?_
  refine lv_iload_n hx hb dL_tryScript_1 rfl (lv_at hl 1 rfl) ?_
  refine lv_lload_n hx hb dL_tryScript_2 rfl (lv_at hl 2 rfl) ?_
  refine cVxi (As := [.int 2, .long (lN wn)]) (rest := []) ⟨hx, hb, hml, hown, hts⟩ (c_X9_runScript2 l D ty wn bc tx hi sl b a r x y g r2 x2 y2 g2 hst hwn hp) (cwV 2 hts gL_tryScript_X9_runScript rfl rfl rfl (by decide +kernel) ⟨Nat.le_of_ble_eq_true rfl, Nat.le_of_ble_eq_true rfl⟩) hK hX hP hD hS hA (pk (bs := [[ob bc 8 [.ref tx, .ref (a 0), .ref (b 0), .ref hi, .ref sl]], (stW ty a r x y g), (stW ty b r2 x2 y2 g2)]) (bsc := [[ob bc 8 [.ref tx, .ref (a 0), .ref (b 0), .ref hi, .ref sl]], (stW ty a r x y g), (stW ty b r2 x2 y2 g2)]) (bsr := []) [0, 1, 2] [] 3 rfl (by decide +kernel) rfl rfl) (ci := 8) rfl 0 rfl rfl hl.1 rfl (Nat.le_of_ble_eq_true rfl) dL_tryScript_3 ⟨Nat.le_of_ble_eq_true rfl, Nat.le_of_ble_eq_true rfl⟩ (fun E hE ce q9 H locs hP hD hS hce hcv hcl => ?_) (fun r9 u9 h9 H locs hP hD hS => ?_)
  · skip
    obtain ⟨hEE, h0⟩ := hE
    exact absurd hc0 h0
  · skip
    have hP : va_P D vwCl (fl [[ob bc 8 [.ref tx, .ref (a 0), .ref (b 0), .ref hi, .ref sl]], (stW ty a r x y g), (stW ty b (scR [wn / 100000 % 100000, wn % 100000] r) (scX [wn / 100000 % 100000, wn % 100000] r x) (scY [wn / 100000 % 100000, wn % 100000] r y) (scG [wn / 100000 % 100000, wn % 100000] r g))]) H := by rw [List.append_nil] at hP; exact hP
    have hD : va_D A (fl [[ob bc 8 [.ref tx, .ref (a 0), .ref (b 0), .ref hi, .ref sl]], (stW ty a r x y g), (stW ty b (scR [wn / 100000 % 100000, wn % 100000] r) (scX [wn / 100000 % 100000, wn % 100000] r x) (scY [wn / 100000 % 100000, wn % 100000] r y) (scG [wn / 100000 % 100000, wn % 100000] r g))]) := by rw [List.append_nil] at hD; exact hD
    have h8 : r9 = (scV 0 [wn / 100000 % 100000, wn % 100000] r) := h9.1
    subst h8
    have hP : va_P D vwCl (fl [[ob bc 8 [.ref tx, .ref (a 0), .ref (b 0), .ref hi, .ref sl]], (stW ty a r x y g), (stW ty b (scR [wn / 100000 % 100000, wn % 100000] r) (scX [wn / 100000 % 100000, wn % 100000] r x) (scY [wn / 100000 % 100000, wn % 100000] r y) (scG [wn / 100000 % 100000, wn % 100000] r g))]) H := hP
    have hD : va_D A (fl [[ob bc 8 [.ref tx, .ref (a 0), .ref (b 0), .ref hi, .ref sl]], (stW ty a r x y g), (stW ty b (scR [wn / 100000 % 100000, wn % 100000] r) (scX [wn / 100000 % 100000, wn % 100000] r x) (scY [wn / 100000 % 100000, wn % 100000] r y) (scG [wn / 100000 % 100000, wn % 100000] r g))]) := hD
    exact end_i (bs' := (fun (_ : Unit) => [[ob bc 8 [.ref tx, .ref (a 0), .ref (b 0), .ref hi, .ref sl]], (stW ty a r x y g), (stW ty b (scR [wn / 100000 % 100000, wn % 100000] r) (scX [wn / 100000 % 100000, wn % 100000] r x) (scY [wn / 100000 % 100000, wn % 100000] r y) (scG [wn / 100000 % 100000, wn % 100000] r g))])) () hx hb hr hlocks hP hD hS (by first | rfl | decide | simp []) (Nat.le_of_ble_eq_true rfl) (Nat.le_of_ble_eq_true rfl) dL_tryScript_6
set_option maxHeartbeats 4000000 in
set_option maxRecDepth 100000 in
theorem c_T_runScript2_n0 (l : Launch) (D : va_G) (ty : Nat → ClassId) (wn : Nat) (bc tx hi sl : Nat) (b : Nat → Nat) (a : Nat → Nat) (r : Nat → Int32) (x y : Int64) (g : Nat → Nat → Int32) (r2 : Nat → Int32) (x2 y2 : Int64) (g2 : Nat → Nat → Int32) (hst : l.stackTraces = false) (hwn : wn < 2 ^ 63) (hp : Pw r) (hc0 : ¬ (wn < 10000000000)) : CTi l yL_tryScript wsL_tryScript ({ frames := 8, cells := 2, slots := 12, locals := 176 }) D ty [.ref bc, .int 2, .long (lN wn)] [[ob bc 8 [.ref tx, .ref (a 0), .ref (b 0), .ref hi, .ref sl]], (stW ty a r x y g), (stW ty b r2 x2 y2 g2)] (fun (RET : Int32) (_ : Unit) => RET = (-999999002)) (fun (_ : Unit) => [[ob bc 8 [.ref tx, .ref (a 0), .ref (b 0), .ref hi, .ref sl]], (stW ty a r x y g), (stW ty b r2 x2 y2 g2)]) := by
  refine CTi_ofH cL_tryScript 5 (some .int) [(0, 6, 7, 13)] (by decide) rfl (Nat.le_of_ble_eq_true rfl) ?_
  intro p e s m args below meth c A hx hb hr hml hown hlocks hin hts hA hX hK hP hD ht0 ls hl
  have hown : s.vm.findClass RL = some m.cls := hown
  have hS : va_S A s.heap s.heap [] := va_S.rf
  have hl : lv_has ls 5 [(0, .ref bc), (1, .int 2), (2, .long (lN wn))] := hl
  refine lv_aload_n hx hb dL_tryScript_0 rfl (lv_at hl 0 rfl) ?_
  refine lv_iload_n hx hb dL_tryScript_1 rfl (lv_at hl 1 rfl) ?_
  refine lv_lload_n hx hb dL_tryScript_2 rfl (lv_at hl 2 rfl) ?_
  refine cVxi (As := [.int 2, .long (lN wn)]) (rest := []) ⟨hx, hb, hml, hown, hts⟩ (c_X9_runScript2 l D ty wn bc tx hi sl b a r x y g r2 x2 y2 g2 hst hwn hp) (cwV 2 hts gL_tryScript_X9_runScript rfl rfl rfl (by decide +kernel) ⟨Nat.le_of_ble_eq_true rfl, Nat.le_of_ble_eq_true rfl⟩) hK hX hP hD hS hA (pk (bs := [[ob bc 8 [.ref tx, .ref (a 0), .ref (b 0), .ref hi, .ref sl]], (stW ty a r x y g), (stW ty b r2 x2 y2 g2)]) (bsc := [[ob bc 8 [.ref tx, .ref (a 0), .ref (b 0), .ref hi, .ref sl]], (stW ty a r x y g), (stW ty b r2 x2 y2 g2)]) (bsr := []) [0, 1, 2] [] 3 rfl (by decide +kernel) rfl rfl) (ci := 8) rfl 0 rfl rfl hl.1 rfl (Nat.le_of_ble_eq_true rfl) dL_tryScript_3 ⟨Nat.le_of_ble_eq_true rfl, Nat.le_of_ble_eq_true rfl⟩ (fun E hE ce q9 H locs hP hD hS hce hcv hcl => ?_) (fun r9 u9 h9 H locs hP hD hS => ?_)
  · skip
    obtain ⟨hEE, h0⟩ := hE
    subst hEE
    have hP : va_P D vwCl (fl [[ob bc 8 [.ref tx, .ref (a 0), .ref (b 0), .ref hi, .ref sl]], (stW ty a r x y g), (stW ty b r2 x2 y2 g2)]) H := by rw [List.append_nil] at hP; exact hP
    have hD : va_D A (fl [[ob bc 8 [.ref tx, .ref (a 0), .ref (b 0), .ref hi, .ref sl]], (stW ty a r x y g), (stW ty b r2 x2 y2 g2)]) := by rw [List.append_nil] at hD; exact hD
    refine vx_catch (own := RL) (name := EIA) (E := EIA) hown [] ⟨0, 6, 7, 13⟩ [] (ht0.trans rfl) (fun z hz => by cases hz) (by decide) (by decide) (hts (Cond.classLink RL 13 "java/lang/IllegalArgumentException") (List.mem_of_getElem? (i := 1) rfl)) (va_Nw.use rfl hX.1.2.2.1.1) hce hcv hcl ?_
    refine lv_astore (lv' := [(4, .ref q9), (0, .ref bc), (1, .int 2), (2, .long (lN wn))]) hx hb dL_tryScript_7 hl (by decide) rfl (fun ls hl => ?_)
    refine lv_ldc hx hb hown (hts (Cond.constant RL 15 (-999999002)) (List.mem_of_getElem? (i := 2) rfl)) dL_tryScript_9 ?_
    have hP : va_P D vwCl (fl [[ob bc 8 [.ref tx, .ref (a 0), .ref (b 0), .ref hi, .ref sl]], (stW ty a r x y g), (stW ty b r2 x2 y2 g2)]) H := hP
    have hD : va_D A (fl [[ob bc 8 [.ref tx, .ref (a 0), .ref (b 0), .ref hi, .ref sl]], (stW ty a r x y g), (stW ty b r2 x2 y2 g2)]) := hD
    exact end_i (bs' := (fun (_ : Unit) => [[ob bc 8 [.ref tx, .ref (a 0), .ref (b 0), .ref hi, .ref sl]], (stW ty a r x y g), (stW ty b r2 x2 y2 g2)])) () hx hb hr hlocks hP hD hS (by first | rfl | decide | simp []) (Nat.le_of_ble_eq_true rfl) (Nat.le_of_ble_eq_true rfl) dL_tryScript_11
  · exact absurd h9.2 hc0
set_option maxHeartbeats 4000000 in
set_option maxRecDepth 100000 in
theorem c_T_runScriptN_n0 (l : Launch) (D : va_G) (ty : Nat → ClassId) (v9 : Int32) (w9 : Int64) (bc tx hi sl : Nat) (b : Nat → Nat) (a : Nat → Nat) (hst : l.stackTraces = false) (hn : inR v9 1 3 → lg_cmp w9 0 < 0) : CTi l yL_tryScript wsL_tryScript ({ frames := 8, cells := 2, slots := 12, locals := 128 }) D ty [.ref bc, .int v9, .long w9] [[ob bc 8 [.ref tx, .ref (a 0), .ref (b 0), .ref hi, .ref sl]]] (fun (RET : Int32) (_ : Unit) => RET = (-999999002)) (fun (_ : Unit) => [[ob bc 8 [.ref tx, .ref (a 0), .ref (b 0), .ref hi, .ref sl]]]) := by
  refine CTi_ofH cL_tryScript 5 (some .int) [(0, 6, 7, 13)] (by decide) rfl (Nat.le_of_ble_eq_true rfl) ?_
  intro p e s m args below meth c A hx hb hr hml hown hlocks hin hts hA hX hK hP hD ht0 ls hl
  have hown : s.vm.findClass RL = some m.cls := hown
  have hS : va_S A s.heap s.heap [] := va_S.rf
  have hl : lv_has ls 5 [(0, .ref bc), (1, .int v9), (2, .long w9)] := hl
  refine lv_aload_n hx hb dL_tryScript_0 rfl (lv_at hl 0 rfl) ?_
  refine lv_iload_n hx hb dL_tryScript_1 rfl (lv_at hl 1 rfl) ?_
  refine lv_lload_n hx hb dL_tryScript_2 rfl (lv_at hl 2 rfl) ?_
  refine cVxi (As := [.int v9, .long w9]) (rest := []) ⟨hx, hb, hml, hown, hts⟩ (c_X9_runScriptN l D ty v9 w9 bc tx hi sl b a hst hn) (cwV 2 hts gL_tryScript_X9_runScript rfl rfl rfl (by decide +kernel) ⟨Nat.le_of_ble_eq_true rfl, Nat.le_of_ble_eq_true rfl⟩) hK hX hP hD hS hA (pk (bs := [[ob bc 8 [.ref tx, .ref (a 0), .ref (b 0), .ref hi, .ref sl]]]) (bsc := [[ob bc 8 [.ref tx, .ref (a 0), .ref (b 0), .ref hi, .ref sl]]]) (bsr := []) [0] [] 1 rfl (by decide +kernel) rfl rfl) (ci := 8) rfl 0 rfl rfl hl.1 rfl (Nat.le_of_ble_eq_true rfl) dL_tryScript_3 ⟨Nat.le_of_ble_eq_true rfl, Nat.le_of_ble_eq_true rfl⟩ (fun E hE ce q9 H locs hP hD hS hce hcv hcl => ?_) (fun r9 u9 h9 H locs hP hD hS => ?_)
  · skip
    have hEE : E = EIA := hE
    subst hEE
    have hP : va_P D vwCl (fl [[ob bc 8 [.ref tx, .ref (a 0), .ref (b 0), .ref hi, .ref sl]]]) H := by rw [List.append_nil] at hP; exact hP
    have hD : va_D A (fl [[ob bc 8 [.ref tx, .ref (a 0), .ref (b 0), .ref hi, .ref sl]]]) := by rw [List.append_nil] at hD; exact hD
    refine vx_catch (own := RL) (name := EIA) (E := EIA) hown [] ⟨0, 6, 7, 13⟩ [] (ht0.trans rfl) (fun z hz => by cases hz) (by decide) (by decide) (hts (Cond.classLink RL 13 "java/lang/IllegalArgumentException") (List.mem_of_getElem? (i := 1) rfl)) (va_Nw.use rfl hX.1.2.2.1.1) hce hcv hcl ?_
    refine lv_astore (lv' := [(4, .ref q9), (0, .ref bc), (1, .int v9), (2, .long w9)]) hx hb dL_tryScript_7 hl (by decide) rfl (fun ls hl => ?_)
    refine lv_ldc hx hb hown (hts (Cond.constant RL 15 (-999999002)) (List.mem_of_getElem? (i := 2) rfl)) dL_tryScript_9 ?_
    have hP : va_P D vwCl (fl [[ob bc 8 [.ref tx, .ref (a 0), .ref (b 0), .ref hi, .ref sl]]]) H := hP
    have hD : va_D A (fl [[ob bc 8 [.ref tx, .ref (a 0), .ref (b 0), .ref hi, .ref sl]]]) := hD
    exact end_i (bs' := (fun (_ : Unit) => [[ob bc 8 [.ref tx, .ref (a 0), .ref (b 0), .ref hi, .ref sl]]])) () hx hb hr hlocks hP hD hS (by first | rfl | decide | simp []) (Nat.le_of_ble_eq_true rfl) (Nat.le_of_ble_eq_true rfl) dL_tryScript_11
  · exact h9.2.elim
set_option maxHeartbeats 4000000 in
set_option maxRecDepth 100000 in
theorem c_T_simulate (l : Launch) (D : va_G) (ty : Nat → ClassId) (w9 : Int64) (mm : Nat) (bc tx hi sl : Nat) (b : Nat → Nat) (a : Nat → Nat) (r : Nat → Int32) (x y : Int64) (g : Nat → Nat → Int32) (r2 : Nat → Int32) (x2 y2 : Int64) (g2 : Nat → Nat → Int32) (hst : l.stackTraces = false) (h1 : 1 ≤ mm) (h60 : mm ≤ 60) (hp : Pw r) : CTi l yL_trySimulate wsL_trySimulate ({ frames := 8, cells := 1, slots := 6, locals := 134 }) D ty [.ref bc, .long w9, .int (nI mm)] [[ob bc 8 [.ref tx, .ref (a 0), .ref (b 0), .ref hi, .ref sl]], (stW ty a r x y g), (stW ty b r2 x2 y2 g2)] (fun (RET : Int32) (_ : Unit) => RET = (100 * (simR simK simN mm w9 r) 7 + 10 * pdom (simR simK simN mm w9 r) + (simR simK simN mm w9 r) 11)) (fun (_ : Unit) => [[ob bc 8 [.ref tx, .ref (a 0), .ref (b 0), .ref hi, .ref sl]], (stW ty a r x y g), (stW ty b (simR simK simN mm w9 r) (simX simK simN mm w9 r x) (simY simK simN mm w9 r y) (simG simK simN mm w9 r g))]) := by
  refine CTi_ofH cL_trySimulate 5 (some .int) [(0, 6, 7, 13)] (by decide) rfl (Nat.le_of_ble_eq_true rfl) ?_
  intro p e s m args below meth c A hx hb hr hml hown hlocks hin hts hA hX hK hP hD ht0 ls hl
  have hown : s.vm.findClass RL = some m.cls := hown
  have hS : va_S A s.heap s.heap [] := va_S.rf
  have hl : lv_has ls 5 [(0, .ref bc), (1, .long w9), (3, .int (nI mm))] := hl
  refine lv_aload_n hx hb dL_trySimulate_0 rfl (lv_at hl 0 rfl) ?_
  refine lv_lload_n hx hb dL_trySimulate_1 rfl (lv_at hl 1 rfl) ?_
  refine lv_iload_n hx hb dL_trySimulate_2 rfl (lv_at hl 2 rfl) ?_
  refine cVxi (As := [.long w9, .int (nI mm)]) (rest := []) ⟨hx, hb, hml, hown, hts⟩ (c_X9_simulate l D ty w9 mm bc tx hi sl b a r x y g r2 x2 y2 g2 hst h1 h60 hp) (cwV 2 hts gL_trySimulate_X9_simulate rfl rfl rfl (by decide +kernel) ⟨Nat.le_of_ble_eq_true rfl, Nat.le_of_ble_eq_true rfl⟩) hK hX hP hD hS hA (pk (bs := [[ob bc 8 [.ref tx, .ref (a 0), .ref (b 0), .ref hi, .ref sl]], (stW ty a r x y g), (stW ty b r2 x2 y2 g2)]) (bsc := [[ob bc 8 [.ref tx, .ref (a 0), .ref (b 0), .ref hi, .ref sl]], (stW ty a r x y g), (stW ty b r2 x2 y2 g2)]) (bsr := []) [0, 1, 2] [] 3 rfl (by decide +kernel) rfl rfl) (ci := 8) rfl 0 rfl rfl hl.1 rfl (Nat.le_of_ble_eq_true rfl) dL_trySimulate_3 ⟨Nat.le_of_ble_eq_true rfl, Nat.le_of_ble_eq_true rfl⟩ (fun E hE ce q9 H locs hP hD hS hce hcv hcl => ?_) (fun r9 u9 h9 H locs hP hD hS => ?_)
  · skip
    exact hE.elim
  · skip
    have hP : va_P D vwCl (fl [[ob bc 8 [.ref tx, .ref (a 0), .ref (b 0), .ref hi, .ref sl]], (stW ty a r x y g), (stW ty b (simR simK simN mm w9 r) (simX simK simN mm w9 r x) (simY simK simN mm w9 r y) (simG simK simN mm w9 r g))]) H := by rw [List.append_nil] at hP; exact hP
    have hD : va_D A (fl [[ob bc 8 [.ref tx, .ref (a 0), .ref (b 0), .ref hi, .ref sl]], (stW ty a r x y g), (stW ty b (simR simK simN mm w9 r) (simX simK simN mm w9 r x) (simY simK simN mm w9 r y) (simG simK simN mm w9 r g))]) := by rw [List.append_nil] at hD; exact hD
    have h8 : r9 = (100 * (simR simK simN mm w9 r) 7 + 10 * pdom (simR simK simN mm w9 r) + (simR simK simN mm w9 r) 11) := h9.1
    subst h8
    have hP : va_P D vwCl (fl [[ob bc 8 [.ref tx, .ref (a 0), .ref (b 0), .ref hi, .ref sl]], (stW ty a r x y g), (stW ty b (simR simK simN mm w9 r) (simX simK simN mm w9 r x) (simY simK simN mm w9 r y) (simG simK simN mm w9 r g))]) H := hP
    have hD : va_D A (fl [[ob bc 8 [.ref tx, .ref (a 0), .ref (b 0), .ref hi, .ref sl]], (stW ty a r x y g), (stW ty b (simR simK simN mm w9 r) (simX simK simN mm w9 r x) (simY simK simN mm w9 r y) (simG simK simN mm w9 r g))]) := hD
    exact end_i (bs' := (fun (_ : Unit) => [[ob bc 8 [.ref tx, .ref (a 0), .ref (b 0), .ref hi, .ref sl]], (stW ty a r x y g), (stW ty b (simR simK simN mm w9 r) (simX simK simN mm w9 r x) (simY simK simN mm w9 r y) (simG simK simN mm w9 r g))])) () hx hb hr hlocks hP hD hS (by first | rfl | decide | simp []) (Nat.le_of_ble_eq_true rfl) (Nat.le_of_ble_eq_true rfl) dL_trySimulate_6
set_option maxHeartbeats 4000000 in
set_option maxRecDepth 100000 in
theorem c_T_simulateN_n0 (l : Launch) (D : va_G) (ty : Nat → ClassId) (w9 : Int64) (v9 : Int32) (bc tx hi sl : Nat) (b : Nat → Nat) (a : Nat → Nat) (r : Nat → Int32) (x y : Int64) (g : Nat → Nat → Int32) (r2 : Nat → Int32) (x2 y2 : Int64) (g2 : Nat → Nat → Int32) (hst : l.stackTraces = false) (hn : ¬ inR v9 1 60) : CTi l yL_trySimulate wsL_trySimulate ({ frames := 8, cells := 1, slots := 6, locals := 131 }) D ty [.ref bc, .long w9, .int v9] [[ob bc 8 [.ref tx, .ref (a 0), .ref (b 0), .ref hi, .ref sl]], (stW ty a r x y g), (stW ty b r2 x2 y2 g2)] (fun (RET : Int32) (_ : Unit) => RET = (-999999002)) (fun (_ : Unit) => [[ob bc 8 [.ref tx, .ref (a 0), .ref (b 0), .ref hi, .ref sl]], (stW ty a r x y g), (stW ty b r2 x2 y2 g2)]) := by
  refine CTi_ofH cL_trySimulate 5 (some .int) [(0, 6, 7, 13)] (by decide) rfl (Nat.le_of_ble_eq_true rfl) ?_
  intro p e s m args below meth c A hx hb hr hml hown hlocks hin hts hA hX hK hP hD ht0 ls hl
  have hown : s.vm.findClass RL = some m.cls := hown
  have hS : va_S A s.heap s.heap [] := va_S.rf
  have hl : lv_has ls 5 [(0, .ref bc), (1, .long w9), (3, .int v9)] := hl
  refine lv_aload_n hx hb dL_trySimulate_0 rfl (lv_at hl 0 rfl) ?_
  refine lv_lload_n hx hb dL_trySimulate_1 rfl (lv_at hl 1 rfl) ?_
  refine lv_iload_n hx hb dL_trySimulate_2 rfl (lv_at hl 2 rfl) ?_
  refine cVxi (As := [.long w9, .int v9]) (rest := []) ⟨hx, hb, hml, hown, hts⟩ (c_X9_simulateN l D ty w9 v9 bc tx hi sl b a r x y g r2 x2 y2 g2 hst hn) (cwV 2 hts gL_trySimulate_X9_simulate rfl rfl rfl (by decide +kernel) ⟨Nat.le_of_ble_eq_true rfl, Nat.le_of_ble_eq_true rfl⟩) hK hX hP hD hS hA (pk (bs := [[ob bc 8 [.ref tx, .ref (a 0), .ref (b 0), .ref hi, .ref sl]], (stW ty a r x y g), (stW ty b r2 x2 y2 g2)]) (bsc := [[ob bc 8 [.ref tx, .ref (a 0), .ref (b 0), .ref hi, .ref sl]], (stW ty a r x y g), (stW ty b r2 x2 y2 g2)]) (bsr := []) [0, 1, 2] [] 3 rfl (by decide +kernel) rfl rfl) (ci := 8) rfl 0 rfl rfl hl.1 rfl (Nat.le_of_ble_eq_true rfl) dL_trySimulate_3 ⟨Nat.le_of_ble_eq_true rfl, Nat.le_of_ble_eq_true rfl⟩ (fun E hE ce q9 H locs hP hD hS hce hcv hcl => ?_) (fun r9 u9 h9 H locs hP hD hS => ?_)
  · skip
    have hEE : E = EIA := hE
    subst hEE
    have hP : va_P D vwCl (fl [[ob bc 8 [.ref tx, .ref (a 0), .ref (b 0), .ref hi, .ref sl]], (stW ty a r x y g), (stW ty b r2 x2 y2 g2)]) H := by rw [List.append_nil] at hP; exact hP
    have hD : va_D A (fl [[ob bc 8 [.ref tx, .ref (a 0), .ref (b 0), .ref hi, .ref sl]], (stW ty a r x y g), (stW ty b r2 x2 y2 g2)]) := by rw [List.append_nil] at hD; exact hD
    refine vx_catch (own := RL) (name := EIA) (E := EIA) hown [] ⟨0, 6, 7, 13⟩ [] (ht0.trans rfl) (fun z hz => by cases hz) (by decide) (by decide) (hts (Cond.classLink RL 13 "java/lang/IllegalArgumentException") (List.mem_of_getElem? (i := 1) rfl)) (va_Nw.use rfl hX.1.2.2.1.1) hce hcv hcl ?_
    refine lv_astore (lv' := [(4, .ref q9), (0, .ref bc), (1, .long w9), (3, .int v9)]) hx hb dL_trySimulate_7 hl (by decide) rfl (fun ls hl => ?_)
    refine lv_ldc hx hb hown (hts (Cond.constant RL 15 (-999999002)) (List.mem_of_getElem? (i := 2) rfl)) dL_trySimulate_9 ?_
    have hP : va_P D vwCl (fl [[ob bc 8 [.ref tx, .ref (a 0), .ref (b 0), .ref hi, .ref sl]], (stW ty a r x y g), (stW ty b r2 x2 y2 g2)]) H := hP
    have hD : va_D A (fl [[ob bc 8 [.ref tx, .ref (a 0), .ref (b 0), .ref hi, .ref sl]], (stW ty a r x y g), (stW ty b r2 x2 y2 g2)]) := hD
    exact end_i (bs' := (fun (_ : Unit) => [[ob bc 8 [.ref tx, .ref (a 0), .ref (b 0), .ref hi, .ref sl]], (stW ty a r x y g), (stW ty b r2 x2 y2 g2)])) () hx hb hr hlocks hP hD hS (by first | rfl | decide | simp []) (Nat.le_of_ble_eq_true rfl) (Nat.le_of_ble_eq_true rfl) dL_trySimulate_11
  · exact h9.2.elim
