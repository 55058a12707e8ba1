set_option maxHeartbeats 4000000 in
set_option maxRecDepth 100000 in
theorem c_T_append (l : Launch) (D : va_G) (ty : Nat → ClassId) (c9 : Int32) (bc tx hi sl : Nat) (b : Nat → Nat) (a : Nat → Nat) (cod told ln : Nat) (cd : Nat → Int32) (p9 z1 z2 z3 : Int32) (hst : l.stackTraces = false) (hl6 : ln ≤ 60) (hc0 : inR c9 0 255) (hc1 : ln < 60) : CTi l yL_tryAppend wsL_tryAppend ({ frames := 8, cells := 2, slots := 12, locals := 125 }) D ty [.ref bc, .int c9] [[ob bc 8 [.ref tx, .ref (a 0), .ref (b 0), .ref hi, .ref sl]], [ob tx 7 [.ref cod, .int (nI ln), .int p9, .int z1, .int z2, .int z3, .ref told]], [ia ty cod 60 cd]] (fun (RET : Int32) (_ : Unit) => RET = (nI (ln + 1))) (fun (_ : Unit) => [[ob bc 8 [.ref tx, .ref (a 0), .ref (b 0), .ref hi, .ref sl]], [ob tx 7 [.ref cod, .int (nI (ln + 1)), .int p9, .int z1, .int z2, .int z3, .ref told]], [ia ty cod 60 (upd cd ln c9)]]) := by
  refine CTi_ofH cL_tryAppend 3 (some .int) [(0, 5, 6, 13), (0, 5, 10, 16)] (by decide) rfl (Nat.le_of_ble_eq_true rfl) ?_
  intro p e s m args below meth c A hx hb hr hml hown hlocks hin hts hA hX hK hP hD ht0 ls hl
  have hown : s.vm.findClass RL = some m.cls := hown
  have hS : va_S A s.heap s.heap [] := va_S.rf
  have hl : lv_has ls 3 [(0, .ref bc), (1, .int c9)] := hl
  refine lv_aload_n hx hb dL_tryAppend_0 rfl (lv_at hl 0 rfl) ?_
  refine lv_iload_n hx hb dL_tryAppend_1 rfl (lv_at hl 1 rfl) ?_
  refine cVxi (As := [.int c9]) (rest := []) ⟨hx, hb, hml, hown, hts⟩ (c_X9_append l D ty c9 bc tx hi sl b a cod told ln cd p9 z1 z2 z3 hst hl6) (cwV 1 hts gL_tryAppend_X9_append rfl rfl rfl (by decide +kernel) ⟨Nat.le_of_ble_eq_true rfl, Nat.le_of_ble_eq_true rfl⟩) hK hX hP hD hS hA (pk (bs := [[ob bc 8 [.ref tx, .ref (a 0), .ref (b 0), .ref hi, .ref sl]], [ob tx 7 [.ref cod, .int (nI ln), .int p9, .int z1, .int z2, .int z3, .ref told]], [ia ty cod 60 cd]]) (bsc := [[ob bc 8 [.ref tx, .ref (a 0), .ref (b 0), .ref hi, .ref sl]], [ob tx 7 [.ref cod, .int (nI ln), .int p9, .int z1, .int z2, .int z3, .ref told]], [ia ty cod 60 cd]]) (bsr := []) [0, 1, 2] [] 3 rfl (by decide +kernel) rfl rfl) (ci := 8) rfl 0 rfl rfl hl.1 rfl (Nat.le_of_ble_eq_true rfl) dL_tryAppend_2 ⟨Nat.le_of_ble_eq_true rfl, Nat.le_of_ble_eq_true rfl⟩ (fun E hE ce q9 H locs hP hD hS hce hcv hcl => ?_) (fun r9 u9 h9 H locs hP hD hS => ?_)
  · skip
    rcases hE with ⟨hEE, h0⟩ | ⟨hEE, k0, h1⟩
    · skip
      exact absurd hc0 h0
    · skip
      exact absurd hc1 h1
  · skip
    have hP : va_P D vwCl (fl [[ob bc 8 [.ref tx, .ref (a 0), .ref (b 0), .ref hi, .ref sl]], [ob tx 7 [.ref cod, .int (nI (ln + 1)), .int p9, .int z1, .int z2, .int z3, .ref told]], [ia ty cod 60 (upd cd ln c9)]]) H := by rw [List.append_nil] at hP; exact hP
    have hD : va_D A (fl [[ob bc 8 [.ref tx, .ref (a 0), .ref (b 0), .ref hi, .ref sl]], [ob tx 7 [.ref cod, .int (nI (ln + 1)), .int p9, .int z1, .int z2, .int z3, .ref told]], [ia ty cod 60 (upd cd ln c9)]]) := by rw [List.append_nil] at hD; exact hD
    have h8 : r9 = (nI (ln + 1)) := h9.1
    subst h8
    have hP : va_P D vwCl (fl [[ob bc 8 [.ref tx, .ref (a 0), .ref (b 0), .ref hi, .ref sl]], [ob tx 7 [.ref cod, .int (nI (ln + 1)), .int p9, .int z1, .int z2, .int z3, .ref told]], [ia ty cod 60 (upd cd ln c9)]]) H := hP
    have hD : va_D A (fl [[ob bc 8 [.ref tx, .ref (a 0), .ref (b 0), .ref hi, .ref sl]], [ob tx 7 [.ref cod, .int (nI (ln + 1)), .int p9, .int z1, .int z2, .int z3, .ref told]], [ia ty cod 60 (upd cd ln c9)]]) := hD
    exact end_i (bs' := (fun (_ : Unit) => [[ob bc 8 [.ref tx, .ref (a 0), .ref (b 0), .ref hi, .ref sl]], [ob tx 7 [.ref cod, .int (nI (ln + 1)), .int p9, .int z1, .int z2, .int z3, .ref told]], [ia ty cod 60 (upd cd ln c9)]])) () hx hb hr hlocks hP hD hS (by first | rfl | decide | simp []) (Nat.le_of_ble_eq_true rfl) (Nat.le_of_ble_eq_true rfl) dL_tryAppend_5
set_option maxHeartbeats 4000000 in
set_option maxRecDepth 100000 in
theorem c_T_append_n0 (l : Launch) (D : va_G) (ty : Nat → ClassId) (c9 : Int32) (bc tx hi sl : Nat) (b : Nat → Nat) (a : Nat → Nat) (cod told ln : Nat) (cd : Nat → Int32) (p9 z1 z2 z3 : Int32) (hst : l.stackTraces = false) (hl6 : ln ≤ 60) (hc0 : ¬ (inR c9 0 255)) : CTi l yL_tryAppend wsL_tryAppend ({ frames := 8, cells := 2, slots := 12, locals := 125 }) D ty [.ref bc, .int c9] [[ob bc 8 [.ref tx, .ref (a 0), .ref (b 0), .ref hi, .ref sl]], [ob tx 7 [.ref cod, .int (nI ln), .int p9, .int z1, .int z2, .int z3, .ref told]], [ia ty cod 60 cd]] (fun (RET : Int32) (_ : Unit) => RET = (-999999002)) (fun (_ : Unit) => [[ob bc 8 [.ref tx, .ref (a 0), .ref (b 0), .ref hi, .ref sl]], [ob tx 7 [.ref cod, .int (nI ln), .int p9, .int z1, .int z2, .int z3, .ref told]], [ia ty cod 60 cd]]) := by
  refine CTi_ofH cL_tryAppend 3 (some .int) [(0, 5, 6, 13), (0, 5, 10, 16)] (by decide) rfl (Nat.le_of_ble_eq_true rfl) ?_
  intro p e s m args below meth c A hx hb hr hml hown hlocks hin hts hA hX hK hP hD ht0 ls hl
  have hown : s.vm.findClass RL = some m.cls := hown
  have hS : va_S A s.heap s.heap [] := va_S.rf
  have hl : lv_has ls 3 [(0, .ref bc), (1, .int c9)] := hl
  refine lv_aload_n hx hb dL_tryAppend_0 rfl (lv_at hl 0 rfl) ?_
  refine lv_iload_n hx hb dL_tryAppend_1 rfl (lv_at hl 1 rfl) ?_
  refine cVxi (As := [.int c9]) (rest := []) ⟨hx, hb, hml, hown, hts⟩ (c_X9_append l D ty c9 bc tx hi sl b a cod told ln cd p9 z1 z2 z3 hst hl6) (cwV 1 hts gL_tryAppend_X9_append rfl rfl rfl (by decide +kernel) ⟨Nat.le_of_ble_eq_true rfl, Nat.le_of_ble_eq_true rfl⟩) hK hX hP hD hS hA (pk (bs := [[ob bc 8 [.ref tx, .ref (a 0), .ref (b 0), .ref hi, .ref sl]], [ob tx 7 [.ref cod, .int (nI ln), .int p9, .int z1, .int z2, .int z3, .ref told]], [ia ty cod 60 cd]]) (bsc := [[ob bc 8 [.ref tx, .ref (a 0), .ref (b 0), .ref hi, .ref sl]], [ob tx 7 [.ref cod, .int (nI ln), .int p9, .int z1, .int z2, .int z3, .ref told]], [ia ty cod 60 cd]]) (bsr := []) [0, 1, 2] [] 3 rfl (by decide +kernel) rfl rfl) (ci := 8) rfl 0 rfl rfl hl.1 rfl (Nat.le_of_ble_eq_true rfl) dL_tryAppend_2 ⟨Nat.le_of_ble_eq_true rfl, Nat.le_of_ble_eq_true rfl⟩ (fun E hE ce q9 H locs hP hD hS hce hcv hcl => ?_) (fun r9 u9 h9 H locs hP hD hS => ?_)
  · skip
    rcases hE with ⟨hEE, h0⟩ | ⟨hEE, k0, h1⟩
    · skip
      subst hEE
      have hP : va_P D vwCl (fl [[ob bc 8 [.ref tx, .ref (a 0), .ref (b 0), .ref hi, .ref sl]], [ob tx 7 [.ref cod, .int (nI ln), .int p9, .int z1, .int z2, .int z3, .ref told]], [ia ty cod 60 cd]]) H := by rw [List.append_nil] at hP; exact hP
      have hD : va_D A (fl [[ob bc 8 [.ref tx, .ref (a 0), .ref (b 0), .ref hi, .ref sl]], [ob tx 7 [.ref cod, .int (nI ln), .int p9, .int z1, .int z2, .int z3, .ref told]], [ia ty cod 60 cd]]) := by rw [List.append_nil] at hD; exact hD
      refine vx_catch (own := RL) (name := EIA) (E := EIA) hown [] ⟨0, 5, 6, 13⟩ [⟨0, 5, 10, 16⟩] (ht0.trans rfl) (fun z hz => by cases hz) (by decide) (by decide) (hts (Cond.classLink RL 13 "java/lang/IllegalArgumentException") (List.mem_of_getElem? (i := 1) rfl)) (va_Nw.use rfl hX.1.2.2.1.1) hce hcv hcl ?_
      refine lv_astore_n (lv' := [(2, .ref q9), (0, .ref bc), (1, .int c9)]) hx hb dL_tryAppend_6 rfl hl (by decide) rfl (fun ls hl => ?_)
      refine lv_ldc hx hb hown (hts (Cond.constant RL 15 (-999999002)) (List.mem_of_getElem? (i := 3) rfl)) dL_tryAppend_7 ?_
      have hP : va_P D vwCl (fl [[ob bc 8 [.ref tx, .ref (a 0), .ref (b 0), .ref hi, .ref sl]], [ob tx 7 [.ref cod, .int (nI ln), .int p9, .int z1, .int z2, .int z3, .ref told]], [ia ty cod 60 cd]]) H := hP
      have hD : va_D A (fl [[ob bc 8 [.ref tx, .ref (a 0), .ref (b 0), .ref hi, .ref sl]], [ob tx 7 [.ref cod, .int (nI ln), .int p9, .int z1, .int z2, .int z3, .ref told]], [ia ty cod 60 cd]]) := hD
      exact end_i (bs' := (fun (_ : Unit) => [[ob bc 8 [.ref tx, .ref (a 0), .ref (b 0), .ref hi, .ref sl]], [ob tx 7 [.ref cod, .int (nI ln), .int p9, .int z1, .int z2, .int z3, .ref told]], [ia ty cod 60 cd]])) () hx hb hr hlocks hP hD hS (by first | rfl | decide | simp []) (Nat.le_of_ble_eq_true rfl) (Nat.le_of_ble_eq_true rfl) dL_tryAppend_9
    · skip
      exact absurd k0 hc0
  · exact absurd h9.2.1 hc0
set_option maxHeartbeats 4000000 in
set_option maxRecDepth 100000 in
theorem c_T_append_n1 (l : Launch) (D : va_G) (ty : Nat → ClassId) (c9 : Int32) (bc tx hi sl : Nat) (b : Nat → Nat) (a : Nat → Nat) (cod told ln : Nat) (cd : Nat → Int32) (p9 z1 z2 z3 : Int32) (hst : l.stackTraces = false) (hl6 : ln ≤ 60) (hc0 : inR c9 0 255) (hc1 : ¬ (ln < 60)) : CTi l yL_tryAppend wsL_tryAppend ({ frames := 8, cells := 2, slots := 12, locals := 125 }) D ty [.ref bc, .int c9] [[ob bc 8 [.ref tx, .ref (a 0), .ref (b 0), .ref hi, .ref sl]], [ob tx 7 [.ref cod, .int (nI ln), .int p9, .int z1, .int z2, .int z3, .ref told]], [ia ty cod 60 cd]] (fun (RET : Int32) (_ : Unit) => RET = (-999999003)) (fun (_ : Unit) => [[ob bc 8 [.ref tx, .ref (a 0), .ref (b 0), .ref hi, .ref sl]], [ob tx 7 [.ref cod, .int (nI ln), .int p9, .int z1, .int z2, .int z3, .ref told]], [ia ty cod 60 cd]]) := by
  refine CTi_ofH cL_tryAppend 3 (some .int) [(0, 5, 6, 13), (0, 5, 10, 16)] (by decide) rfl (Nat.le_of_ble_eq_true rfl) ?_
  intro p e s m args below meth c A hx hb hr hml hown hlocks hin hts hA hX hK hP hD ht0 ls hl
  have hown : s.vm.findClass RL = some m.cls := hown
  have hS : va_S A s.heap s.heap [] := va_S.rf
  have hl : lv_has ls 3 [(0, .ref bc), (1, .int c9)] := hl
  refine lv_aload_n hx hb dL_tryAppend_0 rfl (lv_at hl 0 rfl) ?_
  refine lv_iload_n hx hb dL_tryAppend_1 rfl (lv_at hl 1 rfl) ?_
  refine cVxi (As := [.int c9]) (rest := []) ⟨hx, hb, hml, hown, hts⟩ (c_X9_append l D ty c9 bc tx hi sl b a cod told ln cd p9 z1 z2 z3 hst hl6) (cwV 1 hts gL_tryAppend_X9_append rfl rfl rfl (by decide +kernel) ⟨Nat.le_of_ble_eq_true rfl, Nat.le_of_ble_eq_true rfl⟩) hK hX hP hD hS hA (pk (bs := [[ob bc 8 [.ref tx, .ref (a 0), .ref (b 0), .ref hi, .ref sl]], [ob tx 7 [.ref cod, .int (nI ln), .int p9, .int z1, .int z2, .int z3, .ref told]], [ia ty cod 60 cd]]) (bsc := [[ob bc 8 [.ref tx, .ref (a 0), .ref (b 0), .ref hi, .ref sl]], [ob tx 7 [.ref cod, .int (nI ln), .int p9, .int z1, .int z2, .int z3, .ref told]], [ia ty cod 60 cd]]) (bsr := []) [0, 1, 2] [] 3 rfl (by decide +kernel) rfl rfl) (ci := 8) rfl 0 rfl rfl hl.1 rfl (Nat.le_of_ble_eq_true rfl) dL_tryAppend_2 ⟨Nat.le_of_ble_eq_true rfl, Nat.le_of_ble_eq_true rfl⟩ (fun E hE ce q9 H locs hP hD hS hce hcv hcl => ?_) (fun r9 u9 h9 H locs hP hD hS => ?_)
  · skip
    rcases hE with ⟨hEE, h0⟩ | ⟨hEE, k0, h1⟩
    · skip
      exact absurd hc0 h0
    · skip
      subst hEE
      have hP : va_P D vwCl (fl [[ob bc 8 [.ref tx, .ref (a 0), .ref (b 0), .ref hi, .ref sl]], [ob tx 7 [.ref cod, .int (nI ln), .int p9, .int z1, .int z2, .int z3, .ref told]], [ia ty cod 60 cd]]) H := by rw [List.append_nil] at hP; exact hP
      have hD : va_D A (fl [[ob bc 8 [.ref tx, .ref (a 0), .ref (b 0), .ref hi, .ref sl]], [ob tx 7 [.ref cod, .int (nI ln), .int p9, .int z1, .int z2, .int z3, .ref told]], [ia ty cod 60 cd]]) := by rw [List.append_nil] at hD; exact hD
      refine vx_catch (own := RL) (name := EIS) (E := EIS) hown [⟨0, 5, 6, 13⟩] ⟨0, 5, 10, 16⟩ [] (ht0.trans rfl) (List.forall_mem_cons.mpr ⟨Or.inr ⟨by decide, _, (hts (Cond.classLink RL 13 "java/lang/IllegalArgumentException") (List.mem_of_getElem? (i := 1) rfl)), hX.1.2.2.2.1.1.2.2.1⟩, (fun z hz => absurd hz List.not_mem_nil)⟩) (by decide) (by decide) (hts (Cond.classLink RL 16 "java/lang/IllegalStateException") (List.mem_of_getElem? (i := 2) rfl)) (va_Nw.use rfl hX.1.2.2.1.2.1) hce hcv hcl ?_
      refine lv_astore_n (lv' := [(2, .ref q9), (0, .ref bc), (1, .int c9)]) hx hb dL_tryAppend_10 rfl hl (by decide) rfl (fun ls hl => ?_)
      refine lv_ldc hx hb hown (hts (Cond.constant RL 18 (-999999003)) (List.mem_of_getElem? (i := 4) rfl)) dL_tryAppend_11 ?_
      have hP : va_P D vwCl (fl [[ob bc 8 [.ref tx, .ref (a 0), .ref (b 0), .ref hi, .ref sl]], [ob tx 7 [.ref cod, .int (nI ln), .int p9, .int z1, .int z2, .int z3, .ref told]], [ia ty cod 60 cd]]) H := hP
      have hD : va_D A (fl [[ob bc 8 [.ref tx, .ref (a 0), .ref (b 0), .ref hi, .ref sl]], [ob tx 7 [.ref cod, .int (nI ln), .int p9, .int z1, .int z2, .int z3, .ref told]], [ia ty cod 60 cd]]) := hD
      exact end_i (bs' := (fun (_ : Unit) => [[ob bc 8 [.ref tx, .ref (a 0), .ref (b 0), .ref hi, .ref sl]], [ob tx 7 [.ref cod, .int (nI ln), .int p9, .int z1, .int z2, .int z3, .ref told]], [ia ty cod 60 cd]])) () hx hb hr hlocks hP hD hS (by first | rfl | decide | simp []) (Nat.le_of_ble_eq_true rfl) (Nat.le_of_ble_eq_true rfl) dL_tryAppend_13
  · exact absurd h9.2.2 hc1
set_option maxHeartbeats 4000000 in
set_option maxRecDepth 100000 in
theorem c_T_about (l : Launch) (D : va_G) (ty : Nat → ClassId) (w9 : Int32) (bc tx hi sl : Nat) (b : Nat → Nat) (a : Nat → Nat) (r : Nat → Int32) (x y : Int64) (g : Nat → Nat → Int32) (hst : l.stackTraces = false) (hc0 : inR w9 0 14) : CTi l yL_tryAbout wsL_tryAbout ({ frames := 8, cells := 1, slots := 6, locals := 125 }) D ty [.ref bc, .int w9] [[ob bc 8 [.ref tx, .ref (a 0), .ref (b 0), .ref hi, .ref sl]], (stW ty a r x y g)] (fun (RET : Int32) (_ : Unit) => RET = (ptell r w9)) (fun (_ : Unit) => [[ob bc 8 [.ref tx, .ref (a 0), .ref (b 0), .ref hi, .ref sl]], (stW ty a r x y g)]) := by
  refine CTi_ofH cL_tryAbout 3 (some .int) [(0, 5, 6, 13)] (by decide) rfl (Nat.le_of_ble_eq_true rfl) ?_
  intro p e s m args below meth c A hx hb hr hml hown hlocks hin hts hA hX hK hP hD ht0 ls hl
  have hown : s.vm.findClass RL = some m.cls := hown
  have hS : va_S A s.heap s.heap [] := va_S.rf
  have hl : lv_has ls 3 [(0, .ref bc), (1, .int w9)] := hl
  refine lv_aload_n hx hb dL_tryAbout_0 rfl (lv_at hl 0 rfl) ?_
  refine lv_iload_n hx hb dL_tryAbout_1 rfl (lv_at hl 1 rfl) ?_
  refine cVxi (As := [.int w9]) (rest := []) ⟨hx, hb, hml, hown, hts⟩ (c_X9_about l D ty w9 bc tx hi sl b a r x y g hst) (cwV 1 hts gL_tryAbout_X9_about rfl rfl rfl (by decide +kernel) ⟨Nat.le_of_ble_eq_true rfl, Nat.le_of_ble_eq_true rfl⟩) hK hX hP hD hS hA (pk (bs := [[ob bc 8 [.ref tx, .ref (a 0), .ref (b 0), .ref hi, .ref sl]], (stW ty a r x y g)]) (bsc := [[ob bc 8 [.ref tx, .ref (a 0), .ref (b 0), .ref hi, .ref sl]], (stW ty a r x y g)]) (bsr := []) [0, 1] [] 2 rfl (by decide +kernel) rfl rfl) (ci := 8) rfl 0 rfl rfl hl.1 rfl (Nat.le_of_ble_eq_true rfl) dL_tryAbout_2 ⟨Nat.le_of_ble_eq_true rfl, Nat.le_of_ble_eq_true rfl⟩ (fun E hE ce q9 H locs hP hD hS hce hcv hcl => ?_) (fun r9 u9 h9 H locs hP hD hS => ?_)
  · skip
    obtain ⟨hEE, h0⟩ := hE
    exact absurd hc0 h0
  · skip
    have hP : va_P D vwCl (fl [[ob bc 8 [.ref tx, .ref (a 0), .ref (b 0), .ref hi, .ref sl]], (stW ty a r x y g)]) H := by rw [List.append_nil] at hP; exact hP
    have hD : va_D A (fl [[ob bc 8 [.ref tx, .ref (a 0), .ref (b 0), .ref hi, .ref sl]], (stW ty a r x y g)]) := by rw [List.append_nil] at hD; exact hD
    have h8 : r9 = (ptell r w9) := h9.1
    subst h8
    have hP : va_P D vwCl (fl [[ob bc 8 [.ref tx, .ref (a 0), .ref (b 0), .ref hi, .ref sl]], (stW ty a r x y g)]) H := hP
    have hD : va_D A (fl [[ob bc 8 [.ref tx, .ref (a 0), .ref (b 0), .ref hi, .ref sl]], (stW ty a r x y g)]) := hD
    exact end_i (bs' := (fun (_ : Unit) => [[ob bc 8 [.ref tx, .ref (a 0), .ref (b 0), .ref hi, .ref sl]], (stW ty a r x y g)])) () hx hb hr hlocks hP hD hS (by first | rfl | decide | simp []) (Nat.le_of_ble_eq_true rfl) (Nat.le_of_ble_eq_true rfl) dL_tryAbout_5
set_option maxHeartbeats 4000000 in
set_option maxRecDepth 100000 in
theorem c_T_about_n0 (l : Launch) (D : va_G) (ty : Nat → ClassId) (w9 : Int32) (bc tx hi sl : Nat) (b : Nat → Nat) (a : Nat → Nat) (r : Nat → Int32) (x y : Int64) (g : Nat → Nat → Int32) (hst : l.stackTraces = false) (hc0 : ¬ (inR w9 0 14)) : CTi l yL_tryAbout wsL_tryAbout ({ frames := 8, cells := 1, slots := 6, locals := 125 }) D ty [.ref bc, .int w9] [[ob bc 8 [.ref tx, .ref (a 0), .ref (b 0), .ref hi, .ref sl]], (stW ty a r x y g)] (fun (RET : Int32) (_ : Unit) => RET = (-999999002)) (fun (_ : Unit) => [[ob bc 8 [.ref tx, .ref (a 0), .ref (b 0), .ref hi, .ref sl]], (stW ty a r x y g)]) := by
  refine CTi_ofH cL_tryAbout 3 (some .int) [(0, 5, 6, 13)] (by decide) rfl (Nat.le_of_ble_eq_true rfl) ?_
  intro p e s m args below meth c A hx hb hr hml hown hlocks hin hts hA hX hK hP hD ht0 ls hl
  have hown : s.vm.findClass RL = some m.cls := hown
  have hS : va_S A s.heap s.heap [] := va_S.rf
  have hl : lv_has ls 3 [(0, .ref bc), (1, .int w9)] := hl
  refine lv_aload_n hx hb dL_tryAbout_0 rfl (lv_at hl 0 rfl) ?_
  refine lv_iload_n hx hb dL_tryAbout_1 rfl (lv_at hl 1 rfl) ?_
  refine cVxi (As := [.int w9]) (rest := []) ⟨hx, hb, hml, hown, hts⟩ (c_X9_about l D ty w9 bc tx hi sl b a r x y g hst) (cwV 1 hts gL_tryAbout_X9_about rfl rfl rfl (by decide +kernel) ⟨Nat.le_of_ble_eq_true rfl, Nat.le_of_ble_eq_true rfl⟩) hK hX hP hD hS hA (pk (bs := [[ob bc 8 [.ref tx, .ref (a 0), .ref (b 0), .ref hi, .ref sl]], (stW ty a r x y g)]) (bsc := [[ob bc 8 [.ref tx, .ref (a 0), .ref (b 0), .ref hi, .ref sl]], (stW ty a r x y g)]) (bsr := []) [0, 1] [] 2 rfl (by decide +kernel) rfl rfl) (ci := 8) rfl 0 rfl rfl hl.1 rfl (Nat.le_of_ble_eq_true rfl) dL_tryAbout_2 ⟨Nat.le_of_ble_eq_true rfl, Nat.le_of_ble_eq_true rfl⟩ (fun E hE ce q9 H locs hP hD hS hce hcv hcl => ?_) (fun r9 u9 h9 H locs hP hD hS => ?_)
  · skip
    obtain ⟨hEE, h0⟩ := hE
    subst hEE
    have hP : va_P D vwCl (fl [[ob bc 8 [.ref tx, .ref (a 0), .ref (b 0), .ref hi, .ref sl]], (stW ty a r x y g)]) H := by rw [List.append_nil] at hP; exact hP
    have hD : va_D A (fl [[ob bc 8 [.ref tx, .ref (a 0), .ref (b 0), .ref hi, .ref sl]], (stW ty a r x y g)]) := by rw [List.append_nil] at hD; exact hD
    refine vx_catch (own := RL) (name := EIA) (E := EIA) hown [] ⟨0, 5, 6, 13⟩ [] (ht0.trans rfl) (fun z hz => by cases hz) (by decide) (by decide) (hts (Cond.classLink RL 13 "java/lang/IllegalArgumentException") (List.mem_of_getElem? (i := 1) rfl)) (va_Nw.use rfl hX.1.2.2.1.1) hce hcv hcl ?_
    refine lv_astore_n (lv' := [(2, .ref q9), (0, .ref bc), (1, .int w9)]) hx hb dL_tryAbout_6 rfl hl (by decide) rfl (fun ls hl => ?_)
    refine lv_ldc hx hb hown (hts (Cond.constant RL 15 (-999999002)) (List.mem_of_getElem? (i := 2) rfl)) dL_tryAbout_7 ?_
    have hP : va_P D vwCl (fl [[ob bc 8 [.ref tx, .ref (a 0), .ref (b 0), .ref hi, .ref sl]], (stW ty a r x y g)]) H := hP
    have hD : va_D A (fl [[ob bc 8 [.ref tx, .ref (a 0), .ref (b 0), .ref hi, .ref sl]], (stW ty a r x y g)]) := hD
    exact end_i (bs' := (fun (_ : Unit) => [[ob bc 8 [.ref tx, .ref (a 0), .ref (b 0), .ref hi, .ref sl]], (stW ty a r x y g)])) () hx hb hr hlocks hP hD hS (by first | rfl | decide | simp []) (Nat.le_of_ble_eq_true rfl) (Nat.le_of_ble_eq_true rfl) dL_tryAbout_9
  · exact absurd h9.2 hc0
set_option maxHeartbeats 4000000 in
set_option maxRecDepth 100000 in
theorem c_T_account (l : Launch) (D : va_G) (ty : Nat → ClassId) (w9 : Int32) (bc tx hi sl : Nat) (b : Nat → Nat) (a : Nat → Nat) (r : Nat → Int32) (x y : Int64) (g : Nat → Nat → Int32) (hst : l.stackTraces = false) (hc0 : inR w9 0 5) : CTl l yL_account wsL_account ({ frames := 8, cells := 1, slots := 6, locals := 125 }) D ty [.ref bc, .int w9] [[ob bc 8 [.ref tx, .ref (a 0), .ref (b 0), .ref hi, .ref sl]], (stW ty a r x y g)] (fun (RET : Int64) (_ : Unit) => RET = (if w9 < 4 then Int32.toInt64 (r (12 + w9.toNatClampNeg)) else if w9 = 4 then x else y)) (fun (_ : Unit) => [[ob bc 8 [.ref tx, .ref (a 0), .ref (b 0), .ref hi, .ref sl]], (stW ty a r x y g)]) := by
  refine CTl_ofH cL_account 3 (some .long) [(0, 5, 6, 13)] (by decide) rfl (Nat.le_of_ble_eq_true rfl) ?_
  intro p e s m args below meth c A hx hb hr hml hown hlocks hin hts hA hX hK hP hD ht0 ls hl
  have hown : s.vm.findClass RL = some m.cls := hown
  have hS : va_S A s.heap s.heap [] := va_S.rf
  have hl : lv_has ls 3 [(0, .ref bc), (1, .int w9)] := hl
  refine lv_aload_n hx hb dL_account_0 rfl (lv_at hl 0 rfl) ?_
  refine lv_iload_n hx hb dL_account_1 rfl (lv_at hl 1 rfl) ?_
  refine cVxl (As := [.int w9]) (rest := []) ⟨hx, hb, hml, hown, hts⟩ (c_X9_account l D ty w9 bc tx hi sl b a r x y g hst) (cwV 1 hts gL_account_X9_account rfl rfl rfl (by decide +kernel) ⟨Nat.le_of_ble_eq_true rfl, Nat.le_of_ble_eq_true rfl⟩) hK hX hP hD hS hA (pk (bs := [[ob bc 8 [.ref tx, .ref (a 0), .ref (b 0), .ref hi, .ref sl]], (stW ty a r x y g)]) (bsc := [[ob bc 8 [.ref tx, .ref (a 0), .ref (b 0), .ref hi, .ref sl]], (stW ty a r x y g)]) (bsr := []) [0, 1] [] 2 rfl (by decide +kernel) rfl rfl) (ci := 8) rfl 0 rfl rfl hl.1 rfl (Nat.le_of_ble_eq_true rfl) dL_account_2 ⟨Nat.le_of_ble_eq_true rfl, Nat.le_of_ble_eq_true rfl⟩ (fun E hE ce q9 H locs hP hD hS hce hcv hcl => ?_) (fun r9 u9 h9 H locs hP hD hS => ?_)
  · skip
    obtain ⟨hEE, h0⟩ := hE
    exact absurd hc0 h0
  · skip
    have hP : va_P D vwCl (fl [[ob bc 8 [.ref tx, .ref (a 0), .ref (b 0), .ref hi, .ref sl]], (stW ty a r x y g)]) H := by rw [List.append_nil] at hP; exact hP
    have hD : va_D A (fl [[ob bc 8 [.ref tx, .ref (a 0), .ref (b 0), .ref hi, .ref sl]], (stW ty a r x y g)]) := by rw [List.append_nil] at hD; exact hD
    have h8 : r9 = (if w9 < 4 then Int32.toInt64 (r (12 + w9.toNatClampNeg)) else if w9 = 4 then x else y) := h9.1
    subst h8
    have hP : va_P D vwCl (fl [[ob bc 8 [.ref tx, .ref (a 0), .ref (b 0), .ref hi, .ref sl]], (stW ty a r x y g)]) H := hP
    have hD : va_D A (fl [[ob bc 8 [.ref tx, .ref (a 0), .ref (b 0), .ref hi, .ref sl]], (stW ty a r x y g)]) := hD
    exact end_l (bs' := (fun (_ : Unit) => [[ob bc 8 [.ref tx, .ref (a 0), .ref (b 0), .ref hi, .ref sl]], (stW ty a r x y g)])) () hx hb hr hlocks hP hD hS (by first | rfl | decide | simp []) (Nat.le_of_ble_eq_true rfl) (Nat.le_of_ble_eq_true rfl) dL_account_5
set_option maxHeartbeats 4000000 in
set_option maxRecDepth 100000 in
theorem c_T_account_n0 (l : Launch) (D : va_G) (ty : Nat → ClassId) (w9 : Int32) (bc tx hi sl : Nat) (b : Nat → Nat) (a : Nat → Nat) (r : Nat → Int32) (x y : Int64) (g : Nat → Nat → Int32) (hst : l.stackTraces = false) (hc0 : ¬ (inR w9 0 5)) : CTl l yL_account wsL_account ({ frames := 8, cells := 1, slots := 6, locals := 125 }) D ty [.ref bc, .int w9] [[ob bc 8 [.ref tx, .ref (a 0), .ref (b 0), .ref hi, .ref sl]], (stW ty a r x y g)] (fun (RET : Int64) (_ : Unit) => RET = (-999999002)) (fun (_ : Unit) => [[ob bc 8 [.ref tx, .ref (a 0), .ref (b 0), .ref hi, .ref sl]], (stW ty a r x y g)]) := by
  refine CTl_ofH cL_account 3 (some .long) [(0, 5, 6, 13)] (by decide) rfl (Nat.le_of_ble_eq_true rfl) ?_
  intro p e s m args below meth c A hx hb hr hml hown hlocks hin hts hA hX hK hP hD ht0 ls hl
  have hown : s.vm.findClass RL = some m.cls := hown
  have hS : va_S A s.heap s.heap [] := va_S.rf
  have hl : lv_has ls 3 [(0, .ref bc), (1, .int w9)] := hl
  refine lv_aload_n hx hb dL_account_0 rfl (lv_at hl 0 rfl) ?_
  refine lv_iload_n hx hb dL_account_1 rfl (lv_at hl 1 rfl) ?_
  refine cVxl (As := [.int w9]) (rest := []) ⟨hx, hb, hml, hown, hts⟩ (c_X9_account l D ty w9 bc tx hi sl b a r x y g hst) (cwV 1 hts gL_account_X9_account rfl rfl rfl (by decide +kernel) ⟨Nat.le_of_ble_eq_true rfl, Nat.le_of_ble_eq_true rfl⟩) hK hX hP hD hS hA (pk (bs := [[ob bc 8 [.ref tx, .ref (a 0), .ref (b 0), .ref hi, .ref sl]], (stW ty a r x y g)]) (bsc := [[ob bc 8 [.ref tx, .ref (a 0), .ref (b 0), .ref hi, .ref sl]], (stW ty a r x y g)]) (bsr := []) [0, 1] [] 2 rfl (by decide +kernel) rfl rfl) (ci := 8) rfl 0 rfl rfl hl.1 rfl (Nat.le_of_ble_eq_true rfl) dL_account_2 ⟨Nat.le_of_ble_eq_true rfl, Nat.le_of_ble_eq_true rfl⟩ (fun E hE ce q9 H locs hP hD hS hce hcv hcl => ?_) (fun r9 u9 h9 H locs hP hD hS => ?_)
  · skip
    obtain ⟨hEE, h0⟩ := hE
    subst hEE
    have hP : va_P D vwCl (fl [[ob bc 8 [.ref tx, .ref (a 0), .ref (b 0), .ref hi, .ref sl]], (stW ty a r x y g)]) H := by rw [List.append_nil] at hP; exact hP
    have hD : va_D A (fl [[ob bc 8 [.ref tx, .ref (a 0), .ref (b 0), .ref hi, .ref sl]], (stW ty a r x y g)]) := by rw [List.append_nil] at hD; exact hD
    refine vx_catch (own := RL) (name := EIA) (E := EIA) hown [] ⟨0, 5, 6, 13⟩ [] (ht0.trans rfl) (fun z hz => by cases hz) (by decide) (by decide) (hts (Cond.classLink RL 13 "java/lang/IllegalArgumentException") (List.mem_of_getElem? (i := 1) rfl)) (va_Nw.use rfl hX.1.2.2.1.1) hce hcv hcl ?_
    refine lv_astore_n (lv' := [(2, .ref q9), (0, .ref bc), (1, .int w9)]) hx hb dL_account_6 rfl hl (by decide) rfl (fun ls hl => ?_)
    refine lv_ldc2 hx hb hown (hts (Cond.constantLong RL 107 (-999999002)) (List.mem_of_getElem? (i := 2) rfl)) dL_account_7 ?_
    have hP : va_P D vwCl (fl [[ob bc 8 [.ref tx, .ref (a 0), .ref (b 0), .ref hi, .ref sl]], (stW ty a r x y g)]) H := hP
    have hD : va_D A (fl [[ob bc 8 [.ref tx, .ref (a 0), .ref (b 0), .ref hi, .ref sl]], (stW ty a r x y g)]) := hD
    exact end_l (bs' := (fun (_ : Unit) => [[ob bc 8 [.ref tx, .ref (a 0), .ref (b 0), .ref hi, .ref sl]], (stW ty a r x y g)])) () hx hb hr hlocks hP hD hS (by first | rfl | decide | simp []) (Nat.le_of_ble_eq_true rfl) (Nat.le_of_ble_eq_true rfl) dL_account_10
  · exact absurd h9.2 hc0
set_option maxHeartbeats 4000000 in
set_option maxRecDepth 100000 in
theorem c_T_register (l : Launch) (D : va_G) (ty : Nat → ClassId) (i9 : Int32) (bc tx hi sl : Nat) (b : Nat → Nat) (a : Nat → Nat) (r : Nat → Int32) (x y : Int64) (g : Nat → Nat → Int32) (hst : l.stackTraces = false) (hc0 : inI i9 8) : CTi l yL_tryRegister wsL_tryRegister ({ frames := 8, cells := 1, slots := 6, locals := 124 }) D ty [.ref bc, .int i9] [[ob bc 8 [.ref tx, .ref (a 0), .ref (b 0), .ref hi, .ref sl]], (stW ty a r x y g)] (fun (RET : Int32) (_ : Unit) => RET = (r (16 + i9.toNatClampNeg))) (fun (_ : Unit) => [[ob bc 8 [.ref tx, .ref (a 0), .ref (b 0), .ref hi, .ref sl]], (stW ty a r x y g)]) := by
  refine CTi_ofH cL_tryRegister 3 (some .int) [(0, 5, 6, 29)] (by decide) rfl (Nat.le_of_ble_eq_true rfl) ?_
  intro p e s m args below meth c A hx hb hr hml hown hlocks hin hts hA hX hK hP hD ht0 ls hl
  have hown : s.vm.findClass RL = some m.cls := hown
  have hS : va_S A s.heap s.heap [] := va_S.rf
  have hl : lv_has ls 3 [(0, .ref bc), (1, .int i9)] := hl
  refine lv_aload_n hx hb dL_tryRegister_0 rfl (lv_at hl 0 rfl) ?_
  refine lv_iload_n hx hb dL_tryRegister_1 rfl (lv_at hl 1 rfl) ?_
  refine cVxi (As := [.int i9]) (rest := []) ⟨hx, hb, hml, hown, hts⟩ (c_X9_register l D ty i9 bc tx hi sl b a r x y g hst) (cwV 1 hts gL_tryRegister_X9_register rfl rfl rfl (by decide +kernel) ⟨Nat.le_of_ble_eq_true rfl, Nat.le_of_ble_eq_true rfl⟩) hK hX hP hD hS hA (pk (bs := [[ob bc 8 [.ref tx, .ref (a 0), .ref (b 0), .ref hi, .ref sl]], (stW ty a r x y g)]) (bsc := [[ob bc 8 [.ref tx, .ref (a 0), .ref (b 0), .ref hi, .ref sl]], (stW ty a r x y g)]) (bsr := []) [0, 1] [] 2 rfl (by decide +kernel) rfl rfl) (ci := 8) rfl 0 rfl rfl hl.1 rfl (Nat.le_of_ble_eq_true rfl) dL_tryRegister_2 ⟨Nat.le_of_ble_eq_true rfl, Nat.le_of_ble_eq_true rfl⟩ (fun E hE ce q9 H locs hP hD hS hce hcv hcl => ?_) (fun r9 u9 h9 H locs hP hD hS => ?_)
  · skip
    obtain ⟨hEE, h0⟩ := hE
    exact absurd hc0 h0
  · skip
    have hP : va_P D vwCl (fl [[ob bc 8 [.ref tx, .ref (a 0), .ref (b 0), .ref hi, .ref sl]], (stW ty a r x y g)]) H := by rw [List.append_nil] at hP; exact hP
    have hD : va_D A (fl [[ob bc 8 [.ref tx, .ref (a 0), .ref (b 0), .ref hi, .ref sl]], (stW ty a r x y g)]) := by rw [List.append_nil] at hD; exact hD
    have h8 : r9 = (r (16 + i9.toNatClampNeg)) := h9.1
    subst h8
    have hP : va_P D vwCl (fl [[ob bc 8 [.ref tx, .ref (a 0), .ref (b 0), .ref hi, .ref sl]], (stW ty a r x y g)]) H := hP
    have hD : va_D A (fl [[ob bc 8 [.ref tx, .ref (a 0), .ref (b 0), .ref hi, .ref sl]], (stW ty a r x y g)]) := hD
    exact end_i (bs' := (fun (_ : Unit) => [[ob bc 8 [.ref tx, .ref (a 0), .ref (b 0), .ref hi, .ref sl]], (stW ty a r x y g)])) () hx hb hr hlocks hP hD hS (by first | rfl | decide | simp []) (Nat.le_of_ble_eq_true rfl) (Nat.le_of_ble_eq_true rfl) dL_tryRegister_5
set_option maxHeartbeats 4000000 in
set_option maxRecDepth 100000 in
theorem c_T_register_n0 (l : Launch) (D : va_G) (ty : Nat → ClassId) (i9 : Int32) (bc tx hi sl : Nat) (b : Nat → Nat) (a : Nat → Nat) (r : Nat → Int32) (x y : Int64) (g : Nat → Nat → Int32) (hst : l.stackTraces = false) (hc0 : ¬ (inI i9 8)) : CTi l yL_tryRegister wsL_tryRegister ({ frames := 8, cells := 1, slots := 6, locals := 124 }) D ty [.ref bc, .int i9] [[ob bc 8 [.ref tx, .ref (a 0), .ref (b 0), .ref hi, .ref sl]], (stW ty a r x y g)] (fun (RET : Int32) (_ : Unit) => RET = (-999999001)) (fun (_ : Unit) => [[ob bc 8 [.ref tx, .ref (a 0), .ref (b 0), .ref hi, .ref sl]], (stW ty a r x y g)]) := by
  refine CTi_ofH cL_tryRegister 3 (some .int) [(0, 5, 6, 29)] (by decide) rfl (Nat.le_of_ble_eq_true rfl) ?_
  intro p e s m args below meth c A hx hb hr hml hown hlocks hin hts hA hX hK hP hD ht0 ls hl
  have hown : s.vm.findClass RL = some m.cls := hown
  have hS : va_S A s.heap s.heap [] := va_S.rf
  have hl : lv_has ls 3 [(0, .ref bc), (1, .int i9)] := hl
  refine lv_aload_n hx hb dL_tryRegister_0 rfl (lv_at hl 0 rfl) ?_
  refine lv_iload_n hx hb dL_tryRegister_1 rfl (lv_at hl 1 rfl) ?_
  refine cVxi (As := [.int i9]) (rest := []) ⟨hx, hb, hml, hown, hts⟩ (c_X9_register l D ty i9 bc tx hi sl b a r x y g hst) (cwV 1 hts gL_tryRegister_X9_register rfl rfl rfl (by decide +kernel) ⟨Nat.le_of_ble_eq_true rfl, Nat.le_of_ble_eq_true rfl⟩) hK hX hP hD hS hA (pk (bs := [[ob bc 8 [.ref tx, .ref (a 0), .ref (b 0), .ref hi, .ref sl]], (stW ty a r x y g)]) (bsc := [[ob bc 8 [.ref tx, .ref (a 0), .ref (b 0), .ref hi, .ref sl]], (stW ty a r x y g)]) (bsr := []) [0, 1] [] 2 rfl (by decide +kernel) rfl rfl) (ci := 8) rfl 0 rfl rfl hl.1 rfl (Nat.le_of_ble_eq_true rfl) dL_tryRegister_2 ⟨Nat.le_of_ble_eq_true rfl, Nat.le_of_ble_eq_true rfl⟩ (fun E hE ce q9 H locs hP hD hS hce hcv hcl => ?_) (fun r9 u9 h9 H locs hP hD hS => ?_)
  · skip
    obtain ⟨hEE, h0⟩ := hE
    subst hEE
    have hP : va_P D vwCl (fl [[ob bc 8 [.ref tx, .ref (a 0), .ref (b 0), .ref hi, .ref sl]], (stW ty a r x y g)]) H := by rw [List.append_nil] at hP; exact hP
    have hD : va_D A (fl [[ob bc 8 [.ref tx, .ref (a 0), .ref (b 0), .ref hi, .ref sl]], (stW ty a r x y g)]) := by rw [List.append_nil] at hD; exact hD
    refine vx_catch (own := RL) (name := EIO) (E := EIO) hown [] ⟨0, 5, 6, 29⟩ [] (ht0.trans rfl) (fun z hz => by cases hz) (by decide) (by decide) (hts (Cond.classLink RL 29 "java/lang/IndexOutOfBoundsException") (List.mem_of_getElem? (i := 1) rfl)) (va_Nw.use rfl hX.1.2.2.1.2.2) hce hcv hcl ?_
    refine lv_astore_n (lv' := [(2, .ref q9), (0, .ref bc), (1, .int i9)]) hx hb dL_tryRegister_6 rfl hl (by decide) rfl (fun ls hl => ?_)
    refine lv_ldc hx hb hown (hts (Cond.constant RL 31 (-999999001)) (List.mem_of_getElem? (i := 2) rfl)) dL_tryRegister_7 ?_
    have hP : va_P D vwCl (fl [[ob bc 8 [.ref tx, .ref (a 0), .ref (b 0), .ref hi, .ref sl]], (stW ty a r x y g)]) H := hP
    have hD : va_D A (fl [[ob bc 8 [.ref tx, .ref (a 0), .ref (b 0), .ref hi, .ref sl]], (stW ty a r x y g)]) := hD
    exact end_i (bs' := (fun (_ : Unit) => [[ob bc 8 [.ref tx, .ref (a 0), .ref (b 0), .ref hi, .ref sl]], (stW ty a r x y g)])) () hx hb hr hlocks hP hD hS (by first | rfl | decide | simp []) (Nat.le_of_ble_eq_true rfl) (Nat.le_of_ble_eq_true rfl) dL_tryRegister_9
  · exact absurd h9.2 hc0
set_option maxHeartbeats 4000000 in
set_option maxRecDepth 100000 in
theorem c_T_isGuarded (l : Launch) (D : va_G) (ty : Nat → ClassId) (i9 : Int32) (bc tx hi sl : Nat) (b : Nat → Nat) (a : Nat → Nat) (r : Nat → Int32) (x y : Int64) (g : Nat → Nat → Int32) (hst : l.stackTraces = false) (hc0 : inI i9 3) : CTi l yL_tryIsGuarded wsL_tryIsGuarded ({ frames := 8, cells := 1, slots := 6, locals := 124 }) D ty [.ref bc, .int i9] [[ob bc 8 [.ref tx, .ref (a 0), .ref (b 0), .ref hi, .ref sl]], (stW ty a r x y g)] (fun (RET : Int32) (_ : Unit) => RET = (bz (r (24 + i9.toNatClampNeg)))) (fun (_ : Unit) => [[ob bc 8 [.ref tx, .ref (a 0), .ref (b 0), .ref hi, .ref sl]], (stW ty a r x y g)]) := by
  refine CTi_ofH cL_tryIsGuarded 3 (some .int) [(0, 13, 14, 29)] (by decide) rfl (Nat.le_of_ble_eq_true rfl) ?_
  intro p e s m args below meth c A hx hb hr hml hown hlocks hin hts hA hX hK hP hD ht0 ls hl
  have hown : s.vm.findClass RL = some m.cls := hown
  have hS : va_S A s.heap s.heap [] := va_S.rf
  have hl : lv_has ls 3 [(0, .ref bc), (1, .int i9)] := hl
  refine lv_aload_n hx hb dL_tryIsGuarded_0 rfl (lv_at hl 0 rfl) ?_
  refine lv_iload_n hx hb dL_tryIsGuarded_1 rfl (lv_at hl 1 rfl) ?_
  refine cVxi (As := [.int i9]) (rest := []) ⟨hx, hb, hml, hown, hts⟩ (c_X9_isGuarded l D ty i9 bc tx hi sl b a r x y g hst) (cwV 1 hts gL_tryIsGuarded_X9_isGuarded rfl rfl rfl (by decide +kernel) ⟨Nat.le_of_ble_eq_true rfl, Nat.le_of_ble_eq_true rfl⟩) hK hX hP hD hS hA (pk (bs := [[ob bc 8 [.ref tx, .ref (a 0), .ref (b 0), .ref hi, .ref sl]], (stW ty a r x y g)]) (bsc := [[ob bc 8 [.ref tx, .ref (a 0), .ref (b 0), .ref hi, .ref sl]], (stW ty a r x y g)]) (bsr := []) [0, 1] [] 2 rfl (by decide +kernel) rfl rfl) (ci := 8) rfl 0 rfl rfl hl.1 rfl (Nat.le_of_ble_eq_true rfl) dL_tryIsGuarded_2 ⟨Nat.le_of_ble_eq_true rfl, Nat.le_of_ble_eq_true rfl⟩ (fun E hE ce q9 H locs hP hD hS hce hcv hcl => ?_) (fun r9 u9 h9 H locs hP hD hS => ?_)
  · skip
    obtain ⟨hEE, h0⟩ := hE
    exact absurd hc0 h0
  · skip
    have hP : va_P D vwCl (fl [[ob bc 8 [.ref tx, .ref (a 0), .ref (b 0), .ref hi, .ref sl]], (stW ty a r x y g)]) H := by rw [List.append_nil] at hP; exact hP
    have hD : va_D A (fl [[ob bc 8 [.ref tx, .ref (a 0), .ref (b 0), .ref hi, .ref sl]], (stW ty a r x y g)]) := by rw [List.append_nil] at hD; exact hD
    have h8 : r9 = (bz (r (24 + i9.toNatClampNeg))) := h9.1
    subst h8
    refine lv_if_eq (tgt := 12) hx hb dL_tryIsGuarded_5 (by decide) (fun c_1 => ?_) (fun c_1 => ?_)
    · skip
      refine lv_iconst (v := 0) hx hb dL_tryIsGuarded_12 (by decide) ?_
      have hP : va_P D vwCl (fl [[ob bc 8 [.ref tx, .ref (a 0), .ref (b 0), .ref hi, .ref sl]], (stW ty a r x y g)]) H := hP
      have hD : va_D A (fl [[ob bc 8 [.ref tx, .ref (a 0), .ref (b 0), .ref hi, .ref sl]], (stW ty a r x y g)]) := hD
      exact end_i (bs' := (fun (_ : Unit) => [[ob bc 8 [.ref tx, .ref (a 0), .ref (b 0), .ref hi, .ref sl]], (stW ty a r x y g)])) () hx hb hr hlocks hP hD hS (c_1.symm) (Nat.le_of_ble_eq_true rfl) (Nat.le_of_ble_eq_true rfl) dL_tryIsGuarded_13
    · skip
      refine lv_iconst (v := 1) hx hb dL_tryIsGuarded_8 (by decide) ?_
      refine lv_goto (tgt := 13) hx hb dL_tryIsGuarded_9 (by decide) ?_
      have hP : va_P D vwCl (fl [[ob bc 8 [.ref tx, .ref (a 0), .ref (b 0), .ref hi, .ref sl]], (stW ty a r x y g)]) H := hP
      have hD : va_D A (fl [[ob bc 8 [.ref tx, .ref (a 0), .ref (b 0), .ref hi, .ref sl]], (stW ty a r x y g)]) := hD
      exact end_i (bs' := (fun (_ : Unit) => [[ob bc 8 [.ref tx, .ref (a 0), .ref (b 0), .ref hi, .ref sl]], (stW ty a r x y g)])) () hx hb hr hlocks hP hD hS ((bz_or _).resolve_left c_1).symm (Nat.le_of_ble_eq_true rfl) (Nat.le_of_ble_eq_true rfl) dL_tryIsGuarded_13
set_option maxHeartbeats 4000000 in
set_option maxRecDepth 100000 in
theorem c_T_isGuarded_n0 (l : Launch) (D : va_G) (ty : Nat → ClassId) (i9 : Int32) (bc tx hi sl : Nat) (b : Nat → Nat) (a : Nat → Nat) (r : Nat → Int32) (x y : Int64) (g : Nat → Nat → Int32) (hst : l.stackTraces = false) (hc0 : ¬ (inI i9 3)) : CTi l yL_tryIsGuarded wsL_tryIsGuarded ({ frames := 8, cells := 1, slots := 6, locals := 124 }) D ty [.ref bc, .int i9] [[ob bc 8 [.ref tx, .ref (a 0), .ref (b 0), .ref hi, .ref sl]], (stW ty a r x y g)] (fun (RET : Int32) (_ : Unit) => RET = (-999999001)) (fun (_ : Unit) => [[ob bc 8 [.ref tx, .ref (a 0), .ref (b 0), .ref hi, .ref sl]], (stW ty a r x y g)]) := by
  refine CTi_ofH cL_tryIsGuarded 3 (some .int) [(0, 13, 14, 29)] (by decide) rfl (Nat.le_of_ble_eq_true rfl) ?_
  intro p e s m args below meth c A hx hb hr hml hown hlocks hin hts hA hX hK hP hD ht0 ls hl
  have hown : s.vm.findClass RL = some m.cls := hown
  have hS : va_S A s.heap s.heap [] := va_S.rf
  have hl : lv_has ls 3 [(0, .ref bc), (1, .int i9)] := hl
  refine lv_aload_n hx hb dL_tryIsGuarded_0 rfl (lv_at hl 0 rfl) ?_
  refine lv_iload_n hx hb dL_tryIsGuarded_1 rfl (lv_at hl 1 rfl) ?_
  refine cVxi (As := [.int i9]) (rest := []) ⟨hx, hb, hml, hown, hts⟩ (c_X9_isGuarded l D ty i9 bc tx hi sl b a r x y g hst) (cwV 1 hts gL_tryIsGuarded_X9_isGuarded rfl rfl rfl (by decide +kernel) ⟨Nat.le_of_ble_eq_true rfl, Nat.le_of_ble_eq_true rfl⟩) hK hX hP hD hS hA (pk (bs := [[ob bc 8 [.ref tx, .ref (a 0), .ref (b 0), .ref hi, .ref sl]], (stW ty a r x y g)]) (bsc := [[ob bc 8 [.ref tx, .ref (a 0), .ref (b 0), .ref hi, .ref sl]], (stW ty a r x y g)]) (bsr := []) [0, 1] [] 2 rfl (by decide +kernel) rfl rfl) (ci := 8) rfl 0 rfl rfl hl.1 rfl (Nat.le_of_ble_eq_true rfl) dL_tryIsGuarded_2 ⟨Nat.le_of_ble_eq_true rfl, Nat.le_of_ble_eq_true rfl⟩ (fun E hE ce q9 H locs hP hD hS hce hcv hcl => ?_) (fun r9 u9 h9 H locs hP hD hS => ?_)
  · skip
    obtain ⟨hEE, h0⟩ := hE
    subst hEE
    have hP : va_P D vwCl (fl [[ob bc 8 [.ref tx, .ref (a 0), .ref (b 0), .ref hi, .ref sl]], (stW ty a r x y g)]) H := by rw [List.append_nil] at hP; exact hP
    have hD : va_D A (fl [[ob bc 8 [.ref tx, .ref (a 0), .ref (b 0), .ref hi, .ref sl]], (stW ty a r x y g)]) := by rw [List.append_nil] at hD; exact hD
    refine vx_catch (own := RL) (name := EIO) (E := EIO) hown [] ⟨0, 13, 14, 29⟩ [] (ht0.trans rfl) (fun z hz => by cases hz) (by decide) (by decide) (hts (Cond.classLink RL 29 "java/lang/IndexOutOfBoundsException") (List.mem_of_getElem? (i := 1) rfl)) (va_Nw.use rfl hX.1.2.2.1.2.2) hce hcv hcl ?_
    refine lv_astore_n (lv' := [(2, .ref q9), (0, .ref bc), (1, .int i9)]) hx hb dL_tryIsGuarded_14 rfl hl (by decide) rfl (fun ls hl => ?_)
    refine lv_ldc hx hb hown (hts (Cond.constant RL 31 (-999999001)) (List.mem_of_getElem? (i := 2) rfl)) dL_tryIsGuarded_15 ?_
    have hP : va_P D vwCl (fl [[ob bc 8 [.ref tx, .ref (a 0), .ref (b 0), .ref hi, .ref sl]], (stW ty a r x y g)]) H := hP
    have hD : va_D A (fl [[ob bc 8 [.ref tx, .ref (a 0), .ref (b 0), .ref hi, .ref sl]], (stW ty a r x y g)]) := hD
    exact end_i (bs' := (fun (_ : Unit) => [[ob bc 8 [.ref tx, .ref (a 0), .ref (b 0), .ref hi, .ref sl]], (stW ty a r x y g)])) () hx hb hr hlocks hP hD hS (by first | rfl | decide | simp []) (Nat.le_of_ble_eq_true rfl) (Nat.le_of_ble_eq_true rfl) dL_tryIsGuarded_17
  · exact absurd h9.2 hc0
set_option maxHeartbeats 4000000 in
set_option maxRecDepth 100000 in
theorem c_T_row (l : Launch) (D : va_G) (ty : Nat → ClassId) (i9 w9 : Int32) (bc tx hi sl : Nat) (b : Nat → Nat) (a : Nat → Nat) (r : Nat → Int32) (x y : Int64) (g : Nat → Nat → Int32) (hst : l.stackTraces = false) (h6 : r 11 ≤ 6) (hc0 : inI i9 (r 11)) (hc1 : inR w9 0 2) : CTi l yL_tryRow wsL_tryRow ({ frames := 8, cells := 2, slots := 12, locals := 126 }) D ty [.ref bc, .int i9, .int w9] [[ob bc 8 [.ref tx, .ref (a 0), .ref (b 0), .ref hi, .ref sl]], (stW ty a r x y g)] (fun (RET : Int32) (_ : Unit) => RET = (if w9 = 0 then g 0 i9.toNatClampNeg else if w9 = 1 then g 1 i9.toNatClampNeg else g 2 i9.toNatClampNeg)) (fun (_ : Unit) => [[ob bc 8 [.ref tx, .ref (a 0), .ref (b 0), .ref hi, .ref sl]], (stW ty a r x y g)]) := by
  refine CTi_ofH cL_tryRow 4 (some .int) [(0, 6, 7, 29), (0, 6, 11, 13)] (by decide) rfl (Nat.le_of_ble_eq_true rfl) ?_
  intro p e s m args below meth c A hx hb hr hml hown hlocks hin hts hA hX hK hP hD ht0 ls hl
  have hown : s.vm.findClass RL = some m.cls := hown
  have hS : va_S A s.heap s.heap [] := va_S.rf
  have hl : lv_has ls 4 [(0, .ref bc), (1, .int i9), (2, .int w9)] := hl
  refine lv_aload_n hx hb dL_tryRow_0 rfl (lv_at hl 0 rfl) ?_
  refine lv_iload_n hx hb dL_tryRow_1 rfl (lv_at hl 1 rfl) ?_
  refine lv_iload_n hx hb dL_tryRow_2 rfl (lv_at hl 2 rfl) ?_
  refine cVxi (As := [.int i9, .int w9]) (rest := []) ⟨hx, hb, hml, hown, hts⟩ (c_X9_row l D ty i9 w9 bc tx hi sl b a r x y g hst h6) (cwV 2 hts gL_tryRow_X9_row rfl rfl rfl (by decide +kernel) ⟨Nat.le_of_ble_eq_true rfl, Nat.le_of_ble_eq_true rfl⟩) hK hX hP hD hS hA (pk (bs := [[ob bc 8 [.ref tx, .ref (a 0), .ref (b 0), .ref hi, .ref sl]], (stW ty a r x y g)]) (bsc := [[ob bc 8 [.ref tx, .ref (a 0), .ref (b 0), .ref hi, .ref sl]], (stW ty a r x y g)]) (bsr := []) [0, 1] [] 2 rfl (by decide +kernel) rfl rfl) (ci := 8) rfl 0 rfl rfl hl.1 rfl (Nat.le_of_ble_eq_true rfl) dL_tryRow_3 ⟨Nat.le_of_ble_eq_true rfl, Nat.le_of_ble_eq_true rfl⟩ (fun E hE ce q9 H locs hP hD hS hce hcv hcl => ?_) (fun r9 u9 h9 H locs hP hD hS => ?_)
  · skip
    rcases hE with ⟨hEE, h0⟩ | ⟨hEE, k0, h1⟩
    · skip
      exact absurd hc0 h0
    · skip
      exact absurd hc1 h1
  · skip
    have hP : va_P D vwCl (fl [[ob bc 8 [.ref tx, .ref (a 0), .ref (b 0), .ref hi, .ref sl]], (stW ty a r x y g)]) H := by rw [List.append_nil] at hP; exact hP
    have hD : va_D A (fl [[ob bc 8 [.ref tx, .ref (a 0), .ref (b 0), .ref hi, .ref sl]], (stW ty a r x y g)]) := by rw [List.append_nil] at hD; exact hD
    have h8 : r9 = (if w9 = 0 then g 0 i9.toNatClampNeg else if w9 = 1 then g 1 i9.toNatClampNeg else g 2 i9.toNatClampNeg) := h9.1
    subst h8
    have hP : va_P D vwCl (fl [[ob bc 8 [.ref tx, .ref (a 0), .ref (b 0), .ref hi, .ref sl]], (stW ty a r x y g)]) H := hP
    have hD : va_D A (fl [[ob bc 8 [.ref tx, .ref (a 0), .ref (b 0), .ref hi, .ref sl]], (stW ty a r x y g)]) := hD
    exact end_i (bs' := (fun (_ : Unit) => [[ob bc 8 [.ref tx, .ref (a 0), .ref (b 0), .ref hi, .ref sl]], (stW ty a r x y g)])) () hx hb hr hlocks hP hD hS (by first | rfl | decide | simp []) (Nat.le_of_ble_eq_true rfl) (Nat.le_of_ble_eq_true rfl) dL_tryRow_6
set_option maxHeartbeats 4000000 in
set_option maxRecDepth 100000 in
theorem c_T_row_n0 (l : Launch) (D : va_G) (ty : Nat → ClassId) (i9 w9 : Int32) (bc tx hi sl : Nat) (b : Nat → Nat) (a : Nat → Nat) (r : Nat → Int32) (x y : Int64) (g : Nat → Nat → Int32) (hst : l.stackTraces = false) (h6 : r 11 ≤ 6) (hc0 : ¬ (inI i9 (r 11))) : CTi l yL_tryRow wsL_tryRow ({ frames := 8, cells := 2, slots := 12, locals := 126 }) D ty [.ref bc, .int i9, .int w9] [[ob bc 8 [.ref tx, .ref (a 0), .ref (b 0), .ref hi, .ref sl]], (stW ty a r x y g)] (fun (RET : Int32) (_ : Unit) => RET = (-999999001)) (fun (_ : Unit) => [[ob bc 8 [.ref tx, .ref (a 0), .ref (b 0), .ref hi, .ref sl]], (stW ty a r x y g)]) := by
  refine CTi_ofH cL_tryRow 4 (some .int) [(0, 6, 7, 29), (0, 6, 11, 13)] (by decide) rfl (Nat.le_of_ble_eq_true rfl) ?_
  intro p e s m args below meth c A hx hb hr hml hown hlocks hin hts hA hX hK hP hD ht0 ls hl
  have hown : s.vm.findClass RL = some m.cls := hown
  have hS : va_S A s.heap s.heap [] := va_S.rf
  have hl : lv_has ls 4 [(0, .ref bc), (1, .int i9), (2, .int w9)] := hl
  refine lv_aload_n hx hb dL_tryRow_0 rfl (lv_at hl 0 rfl) ?_
  refine lv_iload_n hx hb dL_tryRow_1 rfl (lv_at hl 1 rfl) ?_
  refine lv_iload_n hx hb dL_tryRow_2 rfl (lv_at hl 2 rfl) ?_
  refine cVxi (As := [.int i9, .int w9]) (rest := []) ⟨hx, hb, hml, hown, hts⟩ (c_X9_row l D ty i9 w9 bc tx hi sl b a r x y g hst h6) (cwV 2 hts gL_tryRow_X9_row rfl rfl rfl (by decide +kernel) ⟨Nat.le_of_ble_eq_true rfl, Nat.le_of_ble_eq_true rfl⟩) hK hX hP hD hS hA (pk (bs := [[ob bc 8 [.ref tx, .ref (a 0), .ref (b 0), .ref hi, .ref sl]], (stW ty a r x y g)]) (bsc := [[ob bc 8 [.ref tx, .ref (a 0), .ref (b 0), .ref hi, .ref sl]], (stW ty a r x y g)]) (bsr := []) [0, 1] [] 2 rfl (by decide +kernel) rfl rfl) (ci := 8) rfl 0 rfl rfl hl.1 rfl (Nat.le_of_ble_eq_true rfl) dL_tryRow_3 ⟨Nat.le_of_ble_eq_true rfl, Nat.le_of_ble_eq_true rfl⟩ (fun E hE ce q9 H locs hP hD hS hce hcv hcl => ?_) (fun r9 u9 h9 H locs hP hD hS => ?_)
  · skip
    rcases hE with ⟨hEE, h0⟩ | ⟨hEE, k0, h1⟩
    · skip
      subst hEE
      have hP : va_P D vwCl (fl [[ob bc 8 [.ref tx, .ref (a 0), .ref (b 0), .ref hi, .ref sl]], (stW ty a r x y g)]) H := by rw [List.append_nil] at hP; exact hP
      have hD : va_D A (fl [[ob bc 8 [.ref tx, .ref (a 0), .ref (b 0), .ref hi, .ref sl]], (stW ty a r x y g)]) := by rw [List.append_nil] at hD; exact hD
      refine vx_catch (own := RL) (name := EIO) (E := EIO) hown [] ⟨0, 6, 7, 29⟩ [⟨0, 6, 11, 13⟩] (ht0.trans rfl) (fun z hz => by cases hz) (by decide) (by decide) (hts (Cond.classLink RL 29 "java/lang/IndexOutOfBoundsException") (List.mem_of_getElem? (i := 1) rfl)) (va_Nw.use rfl hX.1.2.2.1.2.2) hce hcv hcl ?_
      refine lv_astore_n (lv' := [(3, .ref q9), (0, .ref bc), (1, .int i9), (2, .int w9)]) hx hb dL_tryRow_7 rfl hl (by decide) rfl (fun ls hl => ?_)
      refine lv_ldc hx hb hown (hts (Cond.constant RL 31 (-999999001)) (List.mem_of_getElem? (i := 3) rfl)) dL_tryRow_8 ?_
      have hP : va_P D vwCl (fl [[ob bc 8 [.ref tx, .ref (a 0), .ref (b 0), .ref hi, .ref sl]], (stW ty a r x y g)]) H := hP
      have hD : va_D A (fl [[ob bc 8 [.ref tx, .ref (a 0), .ref (b 0), .ref hi, .ref sl]], (stW ty a r x y g)]) := hD
      exact end_i (bs' := (fun (_ : Unit) => [[ob bc 8 [.ref tx, .ref (a 0), .ref (b 0), .ref hi, .ref sl]], (stW ty a r x y g)])) () hx hb hr hlocks hP hD hS (by first | rfl | decide | simp []) (Nat.le_of_ble_eq_true rfl) (Nat.le_of_ble_eq_true rfl) dL_tryRow_10
    · skip
      exact absurd k0 hc0
  · exact absurd h9.2.1 hc0
set_option maxHeartbeats 4000000 in
set_option maxRecDepth 100000 in
theorem c_T_row_n1 (l : Launch) (D : va_G) (ty : Nat → ClassId) (i9 w9 : Int32) (bc tx hi sl : Nat) (b : Nat → Nat) (a : Nat → Nat) (r : Nat → Int32) (x y : Int64) (g : Nat → Nat → Int32) (hst : l.stackTraces = false) (h6 : r 11 ≤ 6) (hc0 : inI i9 (r 11)) (hc1 : ¬ (inR w9 0 2)) : CTi l yL_tryRow wsL_tryRow ({ frames := 8, cells := 2, slots := 12, locals := 126 }) D ty [.ref bc, .int i9, .int w9] [[ob bc 8 [.ref tx, .ref (a 0), .ref (b 0), .ref hi, .ref sl]], (stW ty a r x y g)] (fun (RET : Int32) (_ : Unit) => RET = (-999999002)) (fun (_ : Unit) => [[ob bc 8 [.ref tx, .ref (a 0), .ref (b 0), .ref hi, .ref sl]], (stW ty a r x y g)]) := by
  refine CTi_ofH cL_tryRow 4 (some .int) [(0, 6, 7, 29), (0, 6, 11, 13)] (by decide) rfl (Nat.le_of_ble_eq_true rfl) ?_
  intro p e s m args below meth c A hx hb hr hml hown hlocks hin hts hA hX hK hP hD ht0 ls hl
  have hown : s.vm.findClass RL = some m.cls := hown
  have hS : va_S A s.heap s.heap [] := va_S.rf
  have hl : lv_has ls 4 [(0, .ref bc), (1, .int i9), (2, .int w9)] := hl
  refine lv_aload_n hx hb dL_tryRow_0 rfl (lv_at hl 0 rfl) ?_
  refine lv_iload_n hx hb dL_tryRow_1 rfl (lv_at hl 1 rfl) ?_
  refine lv_iload_n hx hb dL_tryRow_2 rfl (lv_at hl 2 rfl) ?_
  refine cVxi (As := [.int i9, .int w9]) (rest := []) ⟨hx, hb, hml, hown, hts⟩ (c_X9_row l D ty i9 w9 bc tx hi sl b a r x y g hst h6) (cwV 2 hts gL_tryRow_X9_row rfl rfl rfl (by decide +kernel) ⟨Nat.le_of_ble_eq_true rfl, Nat.le_of_ble_eq_true rfl⟩) hK hX hP hD hS hA (pk (bs := [[ob bc 8 [.ref tx, .ref (a 0), .ref (b 0), .ref hi, .ref sl]], (stW ty a r x y g)]) (bsc := [[ob bc 8 [.ref tx, .ref (a 0), .ref (b 0), .ref hi, .ref sl]], (stW ty a r x y g)]) (bsr := []) [0, 1] [] 2 rfl (by decide +kernel) rfl rfl) (ci := 8) rfl 0 rfl rfl hl.1 rfl (Nat.le_of_ble_eq_true rfl) dL_tryRow_3 ⟨Nat.le_of_ble_eq_true rfl, Nat.le_of_ble_eq_true rfl⟩ (fun E hE ce q9 H locs hP hD hS hce hcv hcl => ?_) (fun r9 u9 h9 H locs hP hD hS => ?_)
  · skip
    rcases hE with ⟨hEE, h0⟩ | ⟨hEE, k0, h1⟩
    · skip
      exact absurd hc0 h0
    · skip
      subst hEE
      have hP : va_P D vwCl (fl [[ob bc 8 [.ref tx, .ref (a 0), .ref (b 0), .ref hi, .ref sl]], (stW ty a r x y g)]) H := by rw [List.append_nil] at hP; exact hP
      have hD : va_D A (fl [[ob bc 8 [.ref tx, .ref (a 0), .ref (b 0), .ref hi, .ref sl]], (stW ty a r x y g)]) := by rw [List.append_nil] at hD; exact hD
      refine vx_catch (own := RL) (name := EIA) (E := EIA) hown [⟨0, 6, 7, 29⟩] ⟨0, 6, 11, 13⟩ [] (ht0.trans rfl) (List.forall_mem_cons.mpr ⟨Or.inr ⟨by decide, _, (hts (Cond.classLink RL 29 "java/lang/IndexOutOfBoundsException") (List.mem_of_getElem? (i := 1) rfl)), hX.1.2.2.2.1.1.2.1⟩, (fun z hz => absurd hz List.not_mem_nil)⟩) (by decide) (by decide) (hts (Cond.classLink RL 13 "java/lang/IllegalArgumentException") (List.mem_of_getElem? (i := 2) rfl)) (va_Nw.use rfl hX.1.2.2.1.1) hce hcv hcl ?_
      refine lv_astore_n (lv' := [(3, .ref q9), (0, .ref bc), (1, .int i9), (2, .int w9)]) hx hb dL_tryRow_11 rfl hl (by decide) rfl (fun ls hl => ?_)
      refine lv_ldc hx hb hown (hts (Cond.constant RL 15 (-999999002)) (List.mem_of_getElem? (i := 4) rfl)) dL_tryRow_12 ?_
      have hP : va_P D vwCl (fl [[ob bc 8 [.ref tx, .ref (a 0), .ref (b 0), .ref hi, .ref sl]], (stW ty a r x y g)]) H := hP
      have hD : va_D A (fl [[ob bc 8 [.ref tx, .ref (a 0), .ref (b 0), .ref hi, .ref sl]], (stW ty a r x y g)]) := hD
      exact end_i (bs' := (fun (_ : Unit) => [[ob bc 8 [.ref tx, .ref (a 0), .ref (b 0), .ref hi, .ref sl]], (stW ty a r x y g)])) () hx hb hr hlocks hP hD hS (by first | rfl | decide | simp []) (Nat.le_of_ble_eq_true rfl) (Nat.le_of_ble_eq_true rfl) dL_tryRow_14
  · exact absurd h9.2.2 hc1
set_option maxHeartbeats 4000000 in
set_option maxRecDepth 100000 in
theorem c_T_alarm (l : Launch) (D : va_G) (ty : Nat → ClassId) (i9 w9 : Int32) (bc tx hi sl : Nat) (b : Nat → Nat) (a : Nat → Nat) (r : Nat → Int32) (x y : Int64) (g : Nat → Nat → Int32) (hst : l.stackTraces = false) (hc0 : inI i9 4) (hc1 : inR w9 0 2) : CTi l yL_tryAlarm wsL_tryAlarm ({ frames := 8, cells := 2, slots := 12, locals := 126 }) D ty [.ref bc, .int i9, .int w9] [[ob bc 8 [.ref tx, .ref (a 0), .ref (b 0), .ref hi, .ref sl]], (stW ty a r x y g)] (fun (RET : Int32) (_ : Unit) => RET = (if w9 = 0 then r (27 + 3 * i9.toNatClampNeg) else if w9 = 1 then bz (r (28 + 3 * i9.toNatClampNeg)) else r (29 + 3 * i9.toNatClampNeg))) (fun (_ : Unit) => [[ob bc 8 [.ref tx, .ref (a 0), .ref (b 0), .ref hi, .ref sl]], (stW ty a r x y g)]) := by
  refine CTi_ofH cL_tryAlarm 4 (some .int) [(0, 6, 7, 29), (0, 6, 11, 13)] (by decide) rfl (Nat.le_of_ble_eq_true rfl) ?_
  intro p e s m args below meth c A hx hb hr hml hown hlocks hin hts hA hX hK hP hD ht0 ls hl
  have hown : s.vm.findClass RL = some m.cls := hown
  have hS : va_S A s.heap s.heap [] := va_S.rf
  have hl : lv_has ls 4 [(0, .ref bc), (1, .int i9), (2, .int w9)] := hl
  refine lv_aload_n hx hb dL_tryAlarm_0 rfl (lv_at hl 0 rfl) ?_
  refine lv_iload_n hx hb dL_tryAlarm_1 rfl (lv_at hl 1 rfl) ?_
  refine lv_iload_n hx hb dL_tryAlarm_2 rfl (lv_at hl 2 rfl) ?_
  refine cVxi (As := [.int i9, .int w9]) (rest := []) ⟨hx, hb, hml, hown, hts⟩ (c_X9_alarm l D ty i9 w9 bc tx hi sl b a r x y g hst) (cwV 2 hts gL_tryAlarm_X9_alarm rfl rfl rfl (by decide +kernel) ⟨Nat.le_of_ble_eq_true rfl, Nat.le_of_ble_eq_true rfl⟩) hK hX hP hD hS hA (pk (bs := [[ob bc 8 [.ref tx, .ref (a 0), .ref (b 0), .ref hi, .ref sl]], (stW ty a r x y g)]) (bsc := [[ob bc 8 [.ref tx, .ref (a 0), .ref (b 0), .ref hi, .ref sl]], (stW ty a r x y g)]) (bsr := []) [0, 1] [] 2 rfl (by decide +kernel) rfl rfl) (ci := 8) rfl 0 rfl rfl hl.1 rfl (Nat.le_of_ble_eq_true rfl) dL_tryAlarm_3 ⟨Nat.le_of_ble_eq_true rfl, Nat.le_of_ble_eq_true rfl⟩ (fun E hE ce q9 H locs hP hD hS hce hcv hcl => ?_) (fun r9 u9 h9 H locs hP hD hS => ?_)
  · skip
    rcases hE with ⟨hEE, h0⟩ | ⟨hEE, k0, h1⟩
    · skip
      exact absurd hc0 h0
    · skip
      exact absurd hc1 h1
  · skip
    have hP : va_P D vwCl (fl [[ob bc 8 [.ref tx, .ref (a 0), .ref (b 0), .ref hi, .ref sl]], (stW ty a r x y g)]) H := by rw [List.append_nil] at hP; exact hP
    have hD : va_D A (fl [[ob bc 8 [.ref tx, .ref (a 0), .ref (b 0), .ref hi, .ref sl]], (stW ty a r x y g)]) := by rw [List.append_nil] at hD; exact hD
    have h8 : r9 = (if w9 = 0 then r (27 + 3 * i9.toNatClampNeg) else if w9 = 1 then bz (r (28 + 3 * i9.toNatClampNeg)) else r (29 + 3 * i9.toNatClampNeg)) := h9.1
    subst h8
    have hP : va_P D vwCl (fl [[ob bc 8 [.ref tx, .ref (a 0), .ref (b 0), .ref hi, .ref sl]], (stW ty a r x y g)]) H := hP
    have hD : va_D A (fl [[ob bc 8 [.ref tx, .ref (a 0), .ref (b 0), .ref hi, .ref sl]], (stW ty a r x y g)]) := hD
    exact end_i (bs' := (fun (_ : Unit) => [[ob bc 8 [.ref tx, .ref (a 0), .ref (b 0), .ref hi, .ref sl]], (stW ty a r x y g)])) () hx hb hr hlocks hP hD hS (by first | rfl | decide | simp []) (Nat.le_of_ble_eq_true rfl) (Nat.le_of_ble_eq_true rfl) dL_tryAlarm_6
set_option maxHeartbeats 4000000 in
set_option maxRecDepth 100000 in
theorem c_T_alarm_n0 (l : Launch) (D : va_G) (ty : Nat → ClassId) (i9 w9 : Int32) (bc tx hi sl : Nat) (b : Nat → Nat) (a : Nat → Nat) (r : Nat → Int32) (x y : Int64) (g : Nat → Nat → Int32) (hst : l.stackTraces = false) (hc0 : ¬ (inI i9 4)) : CTi l yL_tryAlarm wsL_tryAlarm ({ frames := 8, cells := 2, slots := 12, locals := 126 }) D ty [.ref bc, .int i9, .int w9] [[ob bc 8 [.ref tx, .ref (a 0), .ref (b 0), .ref hi, .ref sl]], (stW ty a r x y g)] (fun (RET : Int32) (_ : Unit) => RET = (-999999001)) (fun (_ : Unit) => [[ob bc 8 [.ref tx, .ref (a 0), .ref (b 0), .ref hi, .ref sl]], (stW ty a r x y g)]) := by
  refine CTi_ofH cL_tryAlarm 4 (some .int) [(0, 6, 7, 29), (0, 6, 11, 13)] (by decide) rfl (Nat.le_of_ble_eq_true rfl) ?_
  intro p e s m args below meth c A hx hb hr hml hown hlocks hin hts hA hX hK hP hD ht0 ls hl
  have hown : s.vm.findClass RL = some m.cls := hown
  have hS : va_S A s.heap s.heap [] := va_S.rf
  have hl : lv_has ls 4 [(0, .ref bc), (1, .int i9), (2, .int w9)] := hl
  refine lv_aload_n hx hb dL_tryAlarm_0 rfl (lv_at hl 0 rfl) ?_
  refine lv_iload_n hx hb dL_tryAlarm_1 rfl (lv_at hl 1 rfl) ?_
  refine lv_iload_n hx hb dL_tryAlarm_2 rfl (lv_at hl 2 rfl) ?_
  refine cVxi (As := [.int i9, .int w9]) (rest := []) ⟨hx, hb, hml, hown, hts⟩ (c_X9_alarm l D ty i9 w9 bc tx hi sl b a r x y g hst) (cwV 2 hts gL_tryAlarm_X9_alarm rfl rfl rfl (by decide +kernel) ⟨Nat.le_of_ble_eq_true rfl, Nat.le_of_ble_eq_true rfl⟩) hK hX hP hD hS hA (pk (bs := [[ob bc 8 [.ref tx, .ref (a 0), .ref (b 0), .ref hi, .ref sl]], (stW ty a r x y g)]) (bsc := [[ob bc 8 [.ref tx, .ref (a 0), .ref (b 0), .ref hi, .ref sl]], (stW ty a r x y g)]) (bsr := []) [0, 1] [] 2 rfl (by decide +kernel) rfl rfl) (ci := 8) rfl 0 rfl rfl hl.1 rfl (Nat.le_of_ble_eq_true rfl) dL_tryAlarm_3 ⟨Nat.le_of_ble_eq_true rfl, Nat.le_of_ble_eq_true rfl⟩ (fun E hE ce q9 H locs hP hD hS hce hcv hcl => ?_) (fun r9 u9 h9 H locs hP hD hS => ?_)
  · skip
    rcases hE with ⟨hEE, h0⟩ | ⟨hEE, k0, h1⟩
    · skip
      subst hEE
      have hP : va_P D vwCl (fl [[ob bc 8 [.ref tx, .ref (a 0), .ref (b 0), .ref hi, .ref sl]], (stW ty a r x y g)]) H := by rw [List.append_nil] at hP; exact hP
      have hD : va_D A (fl [[ob bc 8 [.ref tx, .ref (a 0), .ref (b 0), .ref hi, .ref sl]], (stW ty a r x y g)]) := by rw [List.append_nil] at hD; exact hD
      refine vx_catch (own := RL) (name := EIO) (E := EIO) hown [] ⟨0, 6, 7, 29⟩ [⟨0, 6, 11, 13⟩] (ht0.trans rfl) (fun z hz => by cases hz) (by decide) (by decide) (hts (Cond.classLink RL 29 "java/lang/IndexOutOfBoundsException") (List.mem_of_getElem? (i := 1) rfl)) (va_Nw.use rfl hX.1.2.2.1.2.2) hce hcv hcl ?_
      refine lv_astore_n (lv' := [(3, .ref q9), (0, .ref bc), (1, .int i9), (2, .int w9)]) hx hb dL_tryAlarm_7 rfl hl (by decide) rfl (fun ls hl => ?_)
      refine lv_ldc hx hb hown (hts (Cond.constant RL 31 (-999999001)) (List.mem_of_getElem? (i := 3) rfl)) dL_tryAlarm_8 ?_
      have hP : va_P D vwCl (fl [[ob bc 8 [.ref tx, .ref (a 0), .ref (b 0), .ref hi, .ref sl]], (stW ty a r x y g)]) H := hP
      have hD : va_D A (fl [[ob bc 8 [.ref tx, .ref (a 0), .ref (b 0), .ref hi, .ref sl]], (stW ty a r x y g)]) := hD
      exact end_i (bs' := (fun (_ : Unit) => [[ob bc 8 [.ref tx, .ref (a 0), .ref (b 0), .ref hi, .ref sl]], (stW ty a r x y g)])) () hx hb hr hlocks hP hD hS (by first | rfl | decide | simp []) (Nat.le_of_ble_eq_true rfl) (Nat.le_of_ble_eq_true rfl) dL_tryAlarm_10
    · skip
      exact absurd k0 hc0
  · exact absurd h9.2.1 hc0
set_option maxHeartbeats 4000000 in
set_option maxRecDepth 100000 in
theorem c_T_alarm_n1 (l : Launch) (D : va_G) (ty : Nat → ClassId) (i9 w9 : Int32) (bc tx hi sl : Nat) (b : Nat → Nat) (a : Nat → Nat) (r : Nat → Int32) (x y : Int64) (g : Nat → Nat → Int32) (hst : l.stackTraces = false) (hc0 : inI i9 4) (hc1 : ¬ (inR w9 0 2)) : CTi l yL_tryAlarm wsL_tryAlarm ({ frames := 8, cells := 2, slots := 12, locals := 126 }) D ty [.ref bc, .int i9, .int w9] [[ob bc 8 [.ref tx, .ref (a 0), .ref (b 0), .ref hi, .ref sl]], (stW ty a r x y g)] (fun (RET : Int32) (_ : Unit) => RET = (-999999002)) (fun (_ : Unit) => [[ob bc 8 [.ref tx, .ref (a 0), .ref (b 0), .ref hi, .ref sl]], (stW ty a r x y g)]) := by
  refine CTi_ofH cL_tryAlarm 4 (some .int) [(0, 6, 7, 29), (0, 6, 11, 13)] (by decide) rfl (Nat.le_of_ble_eq_true rfl) ?_
  intro p e s m args below meth c A hx hb hr hml hown hlocks hin hts hA hX hK hP hD ht0 ls hl
  have hown : s.vm.findClass RL = some m.cls := hown
  have hS : va_S A s.heap s.heap [] := va_S.rf
  have hl : lv_has ls 4 [(0, .ref bc), (1, .int i9), (2, .int w9)] := hl
  refine lv_aload_n hx hb dL_tryAlarm_0 rfl (lv_at hl 0 rfl) ?_
  refine lv_iload_n hx hb dL_tryAlarm_1 rfl (lv_at hl 1 rfl) ?_
  refine lv_iload_n hx hb dL_tryAlarm_2 rfl (lv_at hl 2 rfl) ?_
  refine cVxi (As := [.int i9, .int w9]) (rest := []) ⟨hx, hb, hml, hown, hts⟩ (c_X9_alarm l D ty i9 w9 bc tx hi sl b a r x y g hst) (cwV 2 hts gL_tryAlarm_X9_alarm rfl rfl rfl (by decide +kernel) ⟨Nat.le_of_ble_eq_true rfl, Nat.le_of_ble_eq_true rfl⟩) hK hX hP hD hS hA (pk (bs := [[ob bc 8 [.ref tx, .ref (a 0), .ref (b 0), .ref hi, .ref sl]], (stW ty a r x y g)]) (bsc := [[ob bc 8 [.ref tx, .ref (a 0), .ref (b 0), .ref hi, .ref sl]], (stW ty a r x y g)]) (bsr := []) [0, 1] [] 2 rfl (by decide +kernel) rfl rfl) (ci := 8) rfl 0 rfl rfl hl.1 rfl (Nat.le_of_ble_eq_true rfl) dL_tryAlarm_3 ⟨Nat.le_of_ble_eq_true rfl, Nat.le_of_ble_eq_true rfl⟩ (fun E hE ce q9 H locs hP hD hS hce hcv hcl => ?_) (fun r9 u9 h9 H locs hP hD hS => ?_)
  · skip
    rcases hE with ⟨hEE, h0⟩ | ⟨hEE, k0, h1⟩
    · skip
      exact absurd hc0 h0
    · skip
      subst hEE
      have hP : va_P D vwCl (fl [[ob bc 8 [.ref tx, .ref (a 0), .ref (b 0), .ref hi, .ref sl]], (stW ty a r x y g)]) H := by rw [List.append_nil] at hP; exact hP
      have hD : va_D A (fl [[ob bc 8 [.ref tx, .ref (a 0), .ref (b 0), .ref hi, .ref sl]], (stW ty a r x y g)]) := by rw [List.append_nil] at hD; exact hD
      refine vx_catch (own := RL) (name := EIA) (E := EIA) hown [⟨0, 6, 7, 29⟩] ⟨0, 6, 11, 13⟩ [] (ht0.trans rfl) (List.forall_mem_cons.mpr ⟨Or.inr ⟨by decide, _, (hts (Cond.classLink RL 29 "java/lang/IndexOutOfBoundsException") (List.mem_of_getElem? (i := 1) rfl)), hX.1.2.2.2.1.1.2.1⟩, (fun z hz => absurd hz List.not_mem_nil)⟩) (by decide) (by decide) (hts (Cond.classLink RL 13 "java/lang/IllegalArgumentException") (List.mem_of_getElem? (i := 2) rfl)) (va_Nw.use rfl hX.1.2.2.1.1) hce hcv hcl ?_
      refine lv_astore_n (lv' := [(3, .ref q9), (0, .ref bc), (1, .int i9), (2, .int w9)]) hx hb dL_tryAlarm_11 rfl hl (by decide) rfl (fun ls hl => ?_)
      refine lv_ldc hx hb hown (hts (Cond.constant RL 15 (-999999002)) (List.mem_of_getElem? (i := 4) rfl)) dL_tryAlarm_12 ?_
      have hP : va_P D vwCl (fl [[ob bc 8 [.ref tx, .ref (a 0), .ref (b 0), .ref hi, .ref sl]], (stW ty a r x y g)]) H := hP
      have hD : va_D A (fl [[ob bc 8 [.ref tx, .ref (a 0), .ref (b 0), .ref hi, .ref sl]], (stW ty a r x y g)]) := hD
      exact end_i (bs' := (fun (_ : Unit) => [[ob bc 8 [.ref tx, .ref (a 0), .ref (b 0), .ref hi, .ref sl]], (stW ty a r x y g)])) () hx hb hr hlocks hP hD hS (by first | rfl | decide | simp []) (Nat.le_of_ble_eq_true rfl) (Nat.le_of_ble_eq_true rfl) dL_tryAlarm_14
  · exact absurd h9.2.2 hc1
set_option maxHeartbeats 4000000 in
set_option maxRecDepth 100000 in
theorem c_T_pass (l : Launch) (D : va_G) (ty : Nat → ClassId) (v9 : Int32) (bc tx hi sl : Nat) (b : Nat → Nat) (a : Nat → Nat) (r : Nat → Int32) (x y : Int64) (g : Nat → Nat → Int32) (hs cn : Nat) (ad : Nat → Nat → Nat) (ur : Nat → Nat → Int32) (ux uy : Nat → Int64) (ug : Nat → Nat → Nat → Int32) (hst : l.stackTraces = false) (hc : cn ≤ 14) (hw : Iw r) (hc0 : inR v9 1 1440) : CTi l yL_tryPass wsL_tryPass ({ frames := 8, cells := 1, slots := 6, locals := 128 }) D ty [.ref bc, .int v9] [[ob bc 8 [.ref tx, .ref (a 0), .ref (b 0), .ref hi, .ref sl]], [ob hi 2 [.ref hs, .int (nI cn)]], [sa ty hs 14 (fun k => some (ad k 0))], (stW ty a r x y g), (hsW ty ad ur ux uy ug)] (fun (RET : Int32) (_ : Unit) => RET = (minsR v9.toNatClampNeg r 1)) (fun (_ : Unit) => [[ob bc 8 [.ref tx, .ref (a 0), .ref (b 0), .ref hi, .ref sl]], [ob hi 2 [.ref hs, .int (nI (remC cn))]], [sa ty hs 14 (fun k => some ((remA cn ad) k 0))], (stW ty a (minsR v9.toNatClampNeg r) (minsX v9.toNatClampNeg r x) (minsY v9.toNatClampNeg r y) g), (hsW ty (remA cn ad) (remF cn ur r) (remF cn ux x) (remF cn uy y) (remF cn ug g))]) := by
  refine CTi_ofH cL_tryPass 3 (some .int) [(0, 5, 6, 13)] (by decide) rfl (Nat.le_of_ble_eq_true rfl) ?_
  intro p e s m args below meth c A hx hb hr hml hown hlocks hin hts hA hX hK hP hD ht0 ls hl
  have hown : s.vm.findClass RL = some m.cls := hown
  have hS : va_S A s.heap s.heap [] := va_S.rf
  have hl : lv_has ls 3 [(0, .ref bc), (1, .int v9)] := hl
  refine lv_aload_n hx hb dL_tryPass_0 rfl (lv_at hl 0 rfl) ?_
  refine lv_iload_n hx hb dL_tryPass_1 rfl (lv_at hl 1 rfl) ?_
  refine cVxi (As := [.int v9]) (rest := []) ⟨hx, hb, hml, hown, hts⟩ (c_X9_pass l D ty v9 bc tx hi sl b a r x y g hs cn ad ur ux uy ug hst hc hw) (cwV 1 hts gL_tryPass_X9_pass rfl rfl rfl (by decide +kernel) ⟨Nat.le_of_ble_eq_true rfl, Nat.le_of_ble_eq_true rfl⟩) hK hX hP hD hS hA (pk (bs := [[ob bc 8 [.ref tx, .ref (a 0), .ref (b 0), .ref hi, .ref sl]], [ob hi 2 [.ref hs, .int (nI cn)]], [sa ty hs 14 (fun k => some (ad k 0))], (stW ty a r x y g), (hsW ty ad ur ux uy ug)]) (bsc := [[ob bc 8 [.ref tx, .ref (a 0), .ref (b 0), .ref hi, .ref sl]], [ob hi 2 [.ref hs, .int (nI cn)]], [sa ty hs 14 (fun k => some (ad k 0))], (stW ty a r x y g), (hsW ty ad ur ux uy ug)]) (bsr := []) [0, 1, 2, 3, 4] [] 5 rfl (by decide +kernel) rfl rfl) (ci := 8) rfl 0 rfl rfl hl.1 rfl (Nat.le_of_ble_eq_true rfl) dL_tryPass_2 ⟨Nat.le_of_ble_eq_true rfl, Nat.le_of_ble_eq_true rfl⟩ (fun E hE ce q9 H locs hP hD hS hce hcv hcl => ?_) (fun r9 u9 h9 H locs hP hD hS => ?_)
  · skip
    obtain ⟨hEE, h0⟩ := hE
    exact absurd hc0 h0
  · skip
    have hP : va_P D vwCl (fl [[ob bc 8 [.ref tx, .ref (a 0), .ref (b 0), .ref hi, .ref sl]], [ob hi 2 [.ref hs, .int (nI (remC cn))]], [sa ty hs 14 (fun k => some ((remA cn ad) k 0))], (stW ty a (minsR v9.toNatClampNeg r) (minsX v9.toNatClampNeg r x) (minsY v9.toNatClampNeg r y) g), (hsW ty (remA cn ad) (remF cn ur r) (remF cn ux x) (remF cn uy y) (remF cn ug g))]) H := by rw [List.append_nil] at hP; exact hP
    have hD : va_D A (fl [[ob bc 8 [.ref tx, .ref (a 0), .ref (b 0), .ref hi, .ref sl]], [ob hi 2 [.ref hs, .int (nI (remC cn))]], [sa ty hs 14 (fun k => some ((remA cn ad) k 0))], (stW ty a (minsR v9.toNatClampNeg r) (minsX v9.toNatClampNeg r x) (minsY v9.toNatClampNeg r y) g), (hsW ty (remA cn ad) (remF cn ur r) (remF cn ux x) (remF cn uy y) (remF cn ug g))]) := by rw [List.append_nil] at hD; exact hD
    have h8 : r9 = (minsR v9.toNatClampNeg r 1) := h9.1
    subst h8
    have hP : va_P D vwCl (fl [[ob bc 8 [.ref tx, .ref (a 0), .ref (b 0), .ref hi, .ref sl]], [ob hi 2 [.ref hs, .int (nI (remC cn))]], [sa ty hs 14 (fun k => some ((remA cn ad) k 0))], (stW ty a (minsR v9.toNatClampNeg r) (minsX v9.toNatClampNeg r x) (minsY v9.toNatClampNeg r y) g), (hsW ty (remA cn ad) (remF cn ur r) (remF cn ux x) (remF cn uy y) (remF cn ug g))]) H := hP
    have hD : va_D A (fl [[ob bc 8 [.ref tx, .ref (a 0), .ref (b 0), .ref hi, .ref sl]], [ob hi 2 [.ref hs, .int (nI (remC cn))]], [sa ty hs 14 (fun k => some ((remA cn ad) k 0))], (stW ty a (minsR v9.toNatClampNeg r) (minsX v9.toNatClampNeg r x) (minsY v9.toNatClampNeg r y) g), (hsW ty (remA cn ad) (remF cn ur r) (remF cn ux x) (remF cn uy y) (remF cn ug g))]) := hD
    exact end_i (bs' := (fun (_ : Unit) => [[ob bc 8 [.ref tx, .ref (a 0), .ref (b 0), .ref hi, .ref sl]], [ob hi 2 [.ref hs, .int (nI (remC cn))]], [sa ty hs 14 (fun k => some ((remA cn ad) k 0))], (stW ty a (minsR v9.toNatClampNeg r) (minsX v9.toNatClampNeg r x) (minsY v9.toNatClampNeg r y) g), (hsW ty (remA cn ad) (remF cn ur r) (remF cn ux x) (remF cn uy y) (remF cn ug g))])) () hx hb hr hlocks hP hD hS (by first | rfl | decide | simp []) (Nat.le_of_ble_eq_true rfl) (Nat.le_of_ble_eq_true rfl) dL_tryPass_5
set_option maxHeartbeats 4000000 in
set_option maxRecDepth 100000 in
theorem c_T_pass_n0 (l : Launch) (D : va_G) (ty : Nat → ClassId) (v9 : Int32) (bc tx hi sl : Nat) (b : Nat → Nat) (a : Nat → Nat) (r : Nat → Int32) (x y : Int64) (g : Nat → Nat → Int32) (hs cn : Nat) (ad : Nat → Nat → Nat) (ur : Nat → Nat → Int32) (ux uy : Nat → Int64) (ug : Nat → Nat → Nat → Int32) (hst : l.stackTraces = false) (hc : cn ≤ 14) (hw : Iw r) (hc0 : ¬ (inR v9 1 1440)) : CTi l yL_tryPass wsL_tryPass ({ frames := 8, cells := 1, slots := 6, locals := 128 }) D ty [.ref bc, .int v9] [[ob bc 8 [.ref tx, .ref (a 0), .ref (b 0), .ref hi, .ref sl]], [ob hi 2 [.ref hs, .int (nI cn)]], [sa ty hs 14 (fun k => some (ad k 0))], (stW ty a r x y g), (hsW ty ad ur ux uy ug)] (fun (RET : Int32) (_ : Unit) => RET = (-999999002)) (fun (_ : Unit) => [[ob bc 8 [.ref tx, .ref (a 0), .ref (b 0), .ref hi, .ref sl]], [ob hi 2 [.ref hs, .int (nI cn)]], [sa ty hs 14 (fun k => some (ad k 0))], (stW ty a r x y g), (hsW ty ad ur ux uy ug)]) := by
  refine CTi_ofH cL_tryPass 3 (some .int) [(0, 5, 6, 13)] (by decide) rfl (Nat.le_of_ble_eq_true rfl) ?_
  intro p e s m args below meth c A hx hb hr hml hown hlocks hin hts hA hX hK hP hD ht0 ls hl
  have hown : s.vm.findClass RL = some m.cls := hown
  have hS : va_S A s.heap s.heap [] := va_S.rf
  have hl : lv_has ls 3 [(0, .ref bc), (1, .int v9)] := hl
  refine lv_aload_n hx hb dL_tryPass_0 rfl (lv_at hl 0 rfl) ?_
  refine lv_iload_n hx hb dL_tryPass_1 rfl (lv_at hl 1 rfl) ?_
  refine cVxi (As := [.int v9]) (rest := []) ⟨hx, hb, hml, hown, hts⟩ (c_X9_pass l D ty v9 bc tx hi sl b a r x y g hs cn ad ur ux uy ug hst hc hw) (cwV 1 hts gL_tryPass_X9_pass rfl rfl rfl (by decide +kernel) ⟨Nat.le_of_ble_eq_true rfl, Nat.le_of_ble_eq_true rfl⟩) hK hX hP hD hS hA (pk (bs := [[ob bc 8 [.ref tx, .ref (a 0), .ref (b 0), .ref hi, .ref sl]], [ob hi 2 [.ref hs, .int (nI cn)]], [sa ty hs 14 (fun k => some (ad k 0))], (stW ty a r x y g), (hsW ty ad ur ux uy ug)]) (bsc := [[ob bc 8 [.ref tx, .ref (a 0), .ref (b 0), .ref hi, .ref sl]], [ob hi 2 [.ref hs, .int (nI cn)]], [sa ty hs 14 (fun k => some (ad k 0))], (stW ty a r x y g), (hsW ty ad ur ux uy ug)]) (bsr := []) [0, 1, 2, 3, 4] [] 5 rfl (by decide +kernel) rfl rfl) (ci := 8) rfl 0 rfl rfl hl.1 rfl (Nat.le_of_ble_eq_true rfl) dL_tryPass_2 ⟨Nat.le_of_ble_eq_true rfl, Nat.le_of_ble_eq_true rfl⟩ (fun E hE ce q9 H locs hP hD hS hce hcv hcl => ?_) (fun r9 u9 h9 H locs hP hD hS => ?_)
  · skip
    obtain ⟨hEE, h0⟩ := hE
    subst hEE
    have hP : va_P D vwCl (fl [[ob bc 8 [.ref tx, .ref (a 0), .ref (b 0), .ref hi, .ref sl]], [ob hi 2 [.ref hs, .int (nI cn)]], [sa ty hs 14 (fun k => some (ad k 0))], (stW ty a r x y g), (hsW ty ad ur ux uy ug)]) H := by rw [List.append_nil] at hP; exact hP
    have hD : va_D A (fl [[ob bc 8 [.ref tx, .ref (a 0), .ref (b 0), .ref hi, .ref sl]], [ob hi 2 [.ref hs, .int (nI cn)]], [sa ty hs 14 (fun k => some (ad k 0))], (stW ty a r x y g), (hsW ty ad ur ux uy ug)]) := by rw [List.append_nil] at hD; exact hD
    refine vx_catch (own := RL) (name := EIA) (E := EIA) hown [] ⟨0, 5, 6, 13⟩ [] (ht0.trans rfl) (fun z hz => by cases hz) (by decide) (by decide) (hts (Cond.classLink RL 13 "java/lang/IllegalArgumentException") (List.mem_of_getElem? (i := 1) rfl)) (va_Nw.use rfl hX.1.2.2.1.1) hce hcv hcl ?_
    refine lv_astore_n (lv' := [(2, .ref q9), (0, .ref bc), (1, .int v9)]) hx hb dL_tryPass_6 rfl hl (by decide) rfl (fun ls hl => ?_)
    refine lv_ldc hx hb hown (hts (Cond.constant RL 15 (-999999002)) (List.mem_of_getElem? (i := 2) rfl)) dL_tryPass_7 ?_
    have hP : va_P D vwCl (fl [[ob bc 8 [.ref tx, .ref (a 0), .ref (b 0), .ref hi, .ref sl]], [ob hi 2 [.ref hs, .int (nI cn)]], [sa ty hs 14 (fun k => some (ad k 0))], (stW ty a r x y g), (hsW ty ad ur ux uy ug)]) H := hP
    have hD : va_D A (fl [[ob bc 8 [.ref tx, .ref (a 0), .ref (b 0), .ref hi, .ref sl]], [ob hi 2 [.ref hs, .int (nI cn)]], [sa ty hs 14 (fun k => some (ad k 0))], (stW ty a r x y g), (hsW ty ad ur ux uy ug)]) := hD
    exact end_i (bs' := (fun (_ : Unit) => [[ob bc 8 [.ref tx, .ref (a 0), .ref (b 0), .ref hi, .ref sl]], [ob hi 2 [.ref hs, .int (nI cn)]], [sa ty hs 14 (fun k => some (ad k 0))], (stW ty a r x y g), (hsW ty ad ur ux uy ug)])) () hx hb hr hlocks hP hD hS (by first | rfl | decide | simp []) (Nat.le_of_ble_eq_true rfl) (Nat.le_of_ble_eq_true rfl) dL_tryPass_9
  · exact absurd h9.2 hc0
