set_option maxHeartbeats 4000000 in
set_option maxRecDepth 100000 in
theorem c_L_runScript2_n0 (l : Launch) (D : va_G) (ty : Nat → ClassId) (wn : Nat) (bc tx hi sl : Nat) (b : Nat → Nat) (a : Nat → Nat) (r : Nat → Int32) (x y : Int64) (g : Nat → Nat → Int32) (r2 : Nat → Int32) (x2 y2 : Int64) (g2 : Nat → Nat → Int32) (ot : Nat) (of : Nat → Int64) (hst : l.stackTraces = false) (hwn : wn < 2 ^ 63) (hp : Pw r) (hc0 : ¬ (wn < 10000000000)) : CTi l yL_runScript wsL_runScript ({ frames := 8, cells := 2, slots := 12, locals := 176 }) D ty [.ref bc, .int 2, .long (lN wn), .ref ot] [[la ty ot 1 of], [ob bc 8 [.ref tx, .ref (a 0), .ref (b 0), .ref hi, .ref sl]], (stW ty a r x y g), (stW ty b r2 x2 y2 g2)] (fun (RET : Int32) (_ : Unit) => RET = 1) (fun (_ : Unit) => [[la ty ot 1 of], [ob bc 8 [.ref tx, .ref (a 0), .ref (b 0), .ref hi, .ref sl]], (stW ty a r x y g), (stW ty b r2 x2 y2 g2)]) := by
  refine CTi_ofH cL_runScript 6 (some .int) [(0, 11, 14, 13)] (by decide) rfl (Nat.le_of_ble_eq_true rfl) ?_
  intro p e s m args below meth c A hx hb hr hml hown hlocks hin hts hA hX hK hP hD ht0 ls hl
  have hown : s.vm.findClass RL = some m.cls := hown
  have hS : va_S A s.heap s.heap [] := va_S.rf
  have hl : lv_has ls 6 [(0, .ref bc), (1, .int 2), (2, .long (lN wn)), (4, .ref ot)] := hl
  refine lv_aload hx hb dL_runScript_0 (lv_at hl 3 rfl) ?_
  refine lv_iconst (v := 0) hx hb dL_runScript_2 (by decide) ?_
  refine lv_aload_n hx hb dL_runScript_3 rfl (lv_at hl 0 rfl) ?_
  refine lv_iload_n hx hb dL_runScript_4 rfl (lv_at hl 1 rfl) ?_
  refine lv_lload_n hx hb dL_runScript_5 rfl (lv_at hl 2 rfl) ?_
  refine cVxi (As := [.int 2, .long (lN wn)]) (rest := [.int 0, .ref ot]) ⟨hx, hb, hml, hown, hts⟩ (c_X9_runScript2 l D ty wn bc tx hi sl b a r x y g r2 x2 y2 g2 hst hwn hp) (cwV 2 hts gL_runScript_X9_runScript rfl rfl rfl (by decide +kernel) ⟨Nat.le_of_ble_eq_true rfl, Nat.le_of_ble_eq_true rfl⟩) hK hX hP hD hS hA (pk (bs := [[la ty ot 1 of], [ob bc 8 [.ref tx, .ref (a 0), .ref (b 0), .ref hi, .ref sl]], (stW ty a r x y g), (stW ty b r2 x2 y2 g2)]) (bsc := [[ob bc 8 [.ref tx, .ref (a 0), .ref (b 0), .ref hi, .ref sl]], (stW ty a r x y g), (stW ty b r2 x2 y2 g2)]) (bsr := [[la ty ot 1 of]]) [1, 2, 3] [0] 4 rfl (by decide +kernel) rfl rfl) (ci := 8) rfl 0 rfl rfl hl.1 rfl (Nat.le_of_ble_eq_true rfl) dL_runScript_6 ⟨Nat.le_of_ble_eq_true rfl, Nat.le_of_ble_eq_true rfl⟩ (fun E hE ce q9 H locs hP hD hS hce hcv hcl => ?_) (fun r9 u9 h9 H locs hP hD hS => ?_)
  · skip
    obtain ⟨hEE, h0⟩ := hE
    subst hEE
    have hP : va_P D vwCl (fl [[la ty ot 1 of], [ob bc 8 [.ref tx, .ref (a 0), .ref (b 0), .ref hi, .ref sl]], (stW ty a r x y g), (stW ty b r2 x2 y2 g2)]) H := P_perm (po (bs := [[ob bc 8 [.ref tx, .ref (a 0), .ref (b 0), .ref hi, .ref sl]], (stW ty a r x y g), (stW ty b r2 x2 y2 g2), [la ty ot 1 of]]) [3, 0, 1, 2] 4 rfl (by decide +kernel) rfl) hP
    have hD : va_D A (fl [[la ty ot 1 of], [ob bc 8 [.ref tx, .ref (a 0), .ref (b 0), .ref hi, .ref sl]], (stW ty a r x y g), (stW ty b r2 x2 y2 g2)]) := D_perm (po (bs := [[ob bc 8 [.ref tx, .ref (a 0), .ref (b 0), .ref hi, .ref sl]], (stW ty a r x y g), (stW ty b r2 x2 y2 g2), [la ty ot 1 of]]) [3, 0, 1, 2] 4 rfl (by decide +kernel) rfl) hD
    refine vx_catch (own := RL) (name := EIA) (E := EIA) hown [] ⟨0, 11, 14, 13⟩ [] (ht0.trans rfl) (fun z hz => by cases hz) (by decide) (by decide) (hts (Cond.classLink RL 13 "java/lang/IllegalArgumentException") (List.mem_of_getElem? (i := 1) rfl)) (va_Nw.use rfl hX.1.2.2.1.1) hce hcv hcl ?_
    refine lv_astore (lv' := [(5, .ref q9), (0, .ref bc), (1, .int 2), (2, .long (lN wn)), (4, .ref ot)]) hx hb dL_runScript_14 hl (by decide) rfl (fun ls hl => ?_)
    refine lv_iconst (v := 1) hx hb dL_runScript_16 (by decide) ?_
    have hP : va_P D vwCl (fl [[la ty ot 1 of], [ob bc 8 [.ref tx, .ref (a 0), .ref (b 0), .ref hi, .ref sl]], (stW ty a r x y g), (stW ty b r2 x2 y2 g2)]) H := hP
    have hD : va_D A (fl [[la ty ot 1 of], [ob bc 8 [.ref tx, .ref (a 0), .ref (b 0), .ref hi, .ref sl]], (stW ty a r x y g), (stW ty b r2 x2 y2 g2)]) := hD
    exact end_i (bs' := (fun (_ : Unit) => [[la ty ot 1 of], [ob bc 8 [.ref tx, .ref (a 0), .ref (b 0), .ref hi, .ref sl]], (stW ty a r x y g), (stW ty b r2 x2 y2 g2)])) () hx hb hr hlocks hP hD hS (by first | rfl | decide | simp []) (Nat.le_of_ble_eq_true rfl) (Nat.le_of_ble_eq_true rfl) dL_runScript_17
  · exact absurd h9.2 hc0
set_option maxHeartbeats 4000000 in
set_option maxRecDepth 100000 in
theorem c_L_runScript3 (l : Launch) (D : va_G) (ty : Nat → ClassId) (wn : Nat) (bc tx hi sl : Nat) (b : Nat → Nat) (a : Nat → Nat) (r : Nat → Int32) (x y : Int64) (g : Nat → Nat → Int32) (r2 : Nat → Int32) (x2 y2 : Int64) (g2 : Nat → Nat → Int32) (ot : Nat) (of : Nat → Int64) (hst : l.stackTraces = false) (hwn : wn < 2 ^ 63) (hp : Pw r) (hc0 : wn < 1000000000000000) : CTi l yL_runScript wsL_runScript ({ frames := 8, cells := 2, slots := 12, locals := 176 }) D ty [.ref bc, .int 3, .long (lN wn), .ref ot] [[la ty ot 1 of], [ob bc 8 [.ref tx, .ref (a 0), .ref (b 0), .ref hi, .ref sl]], (stW ty a r x y g), (stW ty b r2 x2 y2 g2)] (fun (RET : Int32) (_ : Unit) => RET = 0) (fun (_ : Unit) => [[la ty ot 1 (vp_updL of 0 (Int32.toInt64 (scV 0 [wn / 100000 / 100000 % 100000, wn / 100000 % 100000, wn % 100000] r)))], [ob bc 8 [.ref tx, .ref (a 0), .ref (b 0), .ref hi, .ref sl]], (stW ty a r x y g), (stW ty b (scR [wn / 100000 / 100000 % 100000, wn / 100000 % 100000, wn % 100000] r) (scX [wn / 100000 / 100000 % 100000, wn / 100000 % 100000, wn % 100000] r x) (scY [wn / 100000 / 100000 % 100000, wn / 100000 % 100000, wn % 100000] r y) (scG [wn / 100000 / 100000 % 100000, wn / 100000 % 100000, wn % 100000] r g))]) := by
  refine CTi_ofH cL_runScript 6 (some .int) [(0, 11, 14, 13)] (by decide) rfl (Nat.le_of_ble_eq_true rfl) ?_
  intro p e s m args below meth c A hx hb hr hml hown hlocks hin hts hA hX hK hP hD ht0 ls hl
  have hown : s.vm.findClass RL = some m.cls := hown
  have hS : va_S A s.heap s.heap [] := va_S.rf
  have hl : lv_has ls 6 [(0, .ref bc), (1, .int 3), (2, .long (lN wn)), (4, .ref ot)] := hl
  refine lv_aload hx hb dL_runScript_0 (lv_at hl 3 rfl) ?_
  refine lv_iconst (v := 0) hx hb dL_runScript_2 (by decide) ?_
  refine lv_aload_n hx hb dL_runScript_3 rfl (lv_at hl 0 rfl) ?_
  refine lv_iload_n hx hb dL_runScript_4 rfl (lv_at hl 1 rfl) ?_
  refine lv_lload_n hx hb dL_runScript_5 rfl (lv_at hl 2 rfl) ?_
  refine cVxi (As := [.int 3, .long (lN wn)]) (rest := [.int 0, .ref ot]) ⟨hx, hb, hml, hown, hts⟩ (c_X9_runScript3 l D ty wn bc tx hi sl b a r x y g r2 x2 y2 g2 hst hwn hp) (cwV 2 hts gL_runScript_X9_runScript rfl rfl rfl (by decide +kernel) ⟨Nat.le_of_ble_eq_true rfl, Nat.le_of_ble_eq_true rfl⟩) hK hX hP hD hS hA (pk (bs := [[la ty ot 1 of], [ob bc 8 [.ref tx, .ref (a 0), .ref (b 0), .ref hi, .ref sl]], (stW ty a r x y g), (stW ty b r2 x2 y2 g2)]) (bsc := [[ob bc 8 [.ref tx, .ref (a 0), .ref (b 0), .ref hi, .ref sl]], (stW ty a r x y g), (stW ty b r2 x2 y2 g2)]) (bsr := [[la ty ot 1 of]]) [1, 2, 3] [0] 4 rfl (by decide +kernel) rfl rfl) (ci := 8) rfl 0 rfl rfl hl.1 rfl (Nat.le_of_ble_eq_true rfl) dL_runScript_6 ⟨Nat.le_of_ble_eq_true rfl, Nat.le_of_ble_eq_true rfl⟩ (fun E hE ce q9 H locs hP hD hS hce hcv hcl => ?_) (fun r9 u9 h9 H locs hP hD hS => ?_)
  · skip
    obtain ⟨hEE, h0⟩ := hE
    exact absurd hc0 h0
  · skip
    have hP : va_P D vwCl (fl [[la ty ot 1 of], [ob bc 8 [.ref tx, .ref (a 0), .ref (b 0), .ref hi, .ref sl]], (stW ty a r x y g), (stW ty b (scR [wn / 100000 / 100000 % 100000, wn / 100000 % 100000, wn % 100000] r) (scX [wn / 100000 / 100000 % 100000, wn / 100000 % 100000, wn % 100000] r x) (scY [wn / 100000 / 100000 % 100000, wn / 100000 % 100000, wn % 100000] r y) (scG [wn / 100000 / 100000 % 100000, wn / 100000 % 100000, wn % 100000] r g))]) H := P_perm (po (bs := [[ob bc 8 [.ref tx, .ref (a 0), .ref (b 0), .ref hi, .ref sl]], (stW ty a r x y g), (stW ty b (scR [wn / 100000 / 100000 % 100000, wn / 100000 % 100000, wn % 100000] r) (scX [wn / 100000 / 100000 % 100000, wn / 100000 % 100000, wn % 100000] r x) (scY [wn / 100000 / 100000 % 100000, wn / 100000 % 100000, wn % 100000] r y) (scG [wn / 100000 / 100000 % 100000, wn / 100000 % 100000, wn % 100000] r g)), [la ty ot 1 of]]) [3, 0, 1, 2] 4 rfl (by decide +kernel) rfl) hP
    have hD : va_D A (fl [[la ty ot 1 of], [ob bc 8 [.ref tx, .ref (a 0), .ref (b 0), .ref hi, .ref sl]], (stW ty a r x y g), (stW ty b (scR [wn / 100000 / 100000 % 100000, wn / 100000 % 100000, wn % 100000] r) (scX [wn / 100000 / 100000 % 100000, wn / 100000 % 100000, wn % 100000] r x) (scY [wn / 100000 / 100000 % 100000, wn / 100000 % 100000, wn % 100000] r y) (scG [wn / 100000 / 100000 % 100000, wn / 100000 % 100000, wn % 100000] r g))]) := D_perm (po (bs := [[ob bc 8 [.ref tx, .ref (a 0), .ref (b 0), .ref hi, .ref sl]], (stW ty a r x y g), (stW ty b (scR [wn / 100000 / 100000 % 100000, wn / 100000 % 100000, wn % 100000] r) (scX [wn / 100000 / 100000 % 100000, wn / 100000 % 100000, wn % 100000] r x) (scY [wn / 100000 / 100000 % 100000, wn / 100000 % 100000, wn % 100000] r y) (scG [wn / 100000 / 100000 % 100000, wn / 100000 % 100000, wn % 100000] r g)), [la ty ot 1 of]]) [3, 0, 1, 2] 4 rfl (by decide +kernel) rfl) hD
    have h8 : r9 = (scV 0 [wn / 100000 / 100000 % 100000, wn / 100000 % 100000, wn % 100000] r) := h9.1
    subst h8
    refine lv_i2l (v := (Int32.toInt64 (scV 0 [wn / 100000 / 100000 % 100000, wn / 100000 % 100000, wn % 100000] r))) hx hb dL_runScript_9 rfl ?_
    refine k_last hx hb hK hP hD hS 0 rfl 0 rfl (by decide) (Nat.le_of_ble_eq_true rfl) dL_runScript_10 (fun H locs hP hD hS => ?_)
    have hP : va_P D vwCl (fl [[la ty ot 1 (vp_updL of 0 (Int32.toInt64 (scV 0 [wn / 100000 / 100000 % 100000, wn / 100000 % 100000, wn % 100000] r)))], [ob bc 8 [.ref tx, .ref (a 0), .ref (b 0), .ref hi, .ref sl]], (stW ty a r x y g), (stW ty b (scR [wn / 100000 / 100000 % 100000, wn / 100000 % 100000, wn % 100000] r) (scX [wn / 100000 / 100000 % 100000, wn / 100000 % 100000, wn % 100000] r x) (scY [wn / 100000 / 100000 % 100000, wn / 100000 % 100000, wn % 100000] r y) (scG [wn / 100000 / 100000 % 100000, wn / 100000 % 100000, wn % 100000] r g))]) H := hP
    have hD : va_D A (fl [[la ty ot 1 (vp_updL of 0 (Int32.toInt64 (scV 0 [wn / 100000 / 100000 % 100000, wn / 100000 % 100000, wn % 100000] r)))], [ob bc 8 [.ref tx, .ref (a 0), .ref (b 0), .ref hi, .ref sl]], (stW ty a r x y g), (stW ty b (scR [wn / 100000 / 100000 % 100000, wn / 100000 % 100000, wn % 100000] r) (scX [wn / 100000 / 100000 % 100000, wn / 100000 % 100000, wn % 100000] r x) (scY [wn / 100000 / 100000 % 100000, wn / 100000 % 100000, wn % 100000] r y) (scG [wn / 100000 / 100000 % 100000, wn / 100000 % 100000, wn % 100000] r g))]) := hD
    refine lv_goto (tgt := 18) hx hb dL_runScript_11 (by decide) ?_
    refine lv_iconst (v := 0) hx hb dL_runScript_18 (by decide) ?_
    have hP : va_P D vwCl (fl [[la ty ot 1 (vp_updL of 0 (Int32.toInt64 (scV 0 [wn / 100000 / 100000 % 100000, wn / 100000 % 100000, wn % 100000] r)))], [ob bc 8 [.ref tx, .ref (a 0), .ref (b 0), .ref hi, .ref sl]], (stW ty a r x y g), (stW ty b (scR [wn / 100000 / 100000 % 100000, wn / 100000 % 100000, wn % 100000] r) (scX [wn / 100000 / 100000 % 100000, wn / 100000 % 100000, wn % 100000] r x) (scY [wn / 100000 / 100000 % 100000, wn / 100000 % 100000, wn % 100000] r y) (scG [wn / 100000 / 100000 % 100000, wn / 100000 % 100000, wn % 100000] r g))]) H := hP
    have hD : va_D A (fl [[la ty ot 1 (vp_updL of 0 (Int32.toInt64 (scV 0 [wn / 100000 / 100000 % 100000, wn / 100000 % 100000, wn % 100000] r)))], [ob bc 8 [.ref tx, .ref (a 0), .ref (b 0), .ref hi, .ref sl]], (stW ty a r x y g), (stW ty b (scR [wn / 100000 / 100000 % 100000, wn / 100000 % 100000, wn % 100000] r) (scX [wn / 100000 / 100000 % 100000, wn / 100000 % 100000, wn % 100000] r x) (scY [wn / 100000 / 100000 % 100000, wn / 100000 % 100000, wn % 100000] r y) (scG [wn / 100000 / 100000 % 100000, wn / 100000 % 100000, wn % 100000] r g))]) := hD
    exact end_i (bs' := (fun (_ : Unit) => [[la ty ot 1 (vp_updL of 0 (Int32.toInt64 (scV 0 [wn / 100000 / 100000 % 100000, wn / 100000 % 100000, wn % 100000] r)))], [ob bc 8 [.ref tx, .ref (a 0), .ref (b 0), .ref hi, .ref sl]], (stW ty a r x y g), (stW ty b (scR [wn / 100000 / 100000 % 100000, wn / 100000 % 100000, wn % 100000] r) (scX [wn / 100000 / 100000 % 100000, wn / 100000 % 100000, wn % 100000] r x) (scY [wn / 100000 / 100000 % 100000, wn / 100000 % 100000, wn % 100000] r y) (scG [wn / 100000 / 100000 % 100000, wn / 100000 % 100000, wn % 100000] r g))])) () hx hb hr hlocks hP hD hS (by first | rfl | decide | simp []) (Nat.le_of_ble_eq_true rfl) (Nat.le_of_ble_eq_true rfl) dL_runScript_19
set_option maxHeartbeats 4000000 in
set_option maxRecDepth 100000 in
theorem c_L_runScript3_n0 (l : Launch) (D : va_G) (ty : Nat → ClassId) (wn : Nat) (bc tx hi sl : Nat) (b : Nat → Nat) (a : Nat → Nat) (r : Nat → Int32) (x y : Int64) (g : Nat → Nat → Int32) (r2 : Nat → Int32) (x2 y2 : Int64) (g2 : Nat → Nat → Int32) (ot : Nat) (of : Nat → Int64) (hst : l.stackTraces = false) (hwn : wn < 2 ^ 63) (hp : Pw r) (hc0 : ¬ (wn < 1000000000000000)) : CTi l yL_runScript wsL_runScript ({ frames := 8, cells := 2, slots := 12, locals := 176 }) D ty [.ref bc, .int 3, .long (lN wn), .ref ot] [[la ty ot 1 of], [ob bc 8 [.ref tx, .ref (a 0), .ref (b 0), .ref hi, .ref sl]], (stW ty a r x y g), (stW ty b r2 x2 y2 g2)] (fun (RET : Int32) (_ : Unit) => RET = 1) (fun (_ : Unit) => [[la ty ot 1 of], [ob bc 8 [.ref tx, .ref (a 0), .ref (b 0), .ref hi, .ref sl]], (stW ty a r x y g), (stW ty b r2 x2 y2 g2)]) := by
  refine CTi_ofH cL_runScript 6 (some .int) [(0, 11, 14, 13)] (by decide) rfl (Nat.le_of_ble_eq_true rfl) ?_
  intro p e s m args below meth c A hx hb hr hml hown hlocks hin hts hA hX hK hP hD ht0 ls hl
  have hown : s.vm.findClass RL = some m.cls := hown
  have hS : va_S A s.heap s.heap [] := va_S.rf
  have hl : lv_has ls 6 [(0, .ref bc), (1, .int 3), (2, .long (lN wn)), (4, .ref ot)] := hl
  refine lv_aload hx hb dL_runScript_0 (lv_at hl 3 rfl) ?_
  refine lv_iconst (v := 0) hx hb dL_runScript_2 (by decide) ?_
  refine lv_aload_n hx hb dL_runScript_3 rfl (lv_at hl 0 rfl) ?_
  refine lv_iload_n hx hb dL_runScript_4 rfl (lv_at hl 1 rfl) ?_
  refine lv_lload_n hx hb dL_runScript_5 rfl (lv_at hl 2 rfl) ?_
  refine cVxi (As := [.int 3, .long (lN wn)]) (rest := [.int 0, .ref ot]) ⟨hx, hb, hml, hown, hts⟩ (c_X9_runScript3 l D ty wn bc tx hi sl b a r x y g r2 x2 y2 g2 hst hwn hp) (cwV 2 hts gL_runScript_X9_runScript rfl rfl rfl (by decide +kernel) ⟨Nat.le_of_ble_eq_true rfl, Nat.le_of_ble_eq_true rfl⟩) hK hX hP hD hS hA (pk (bs := [[la ty ot 1 of], [ob bc 8 [.ref tx, .ref (a 0), .ref (b 0), .ref hi, .ref sl]], (stW ty a r x y g), (stW ty b r2 x2 y2 g2)]) (bsc := [[ob bc 8 [.ref tx, .ref (a 0), .ref (b 0), .ref hi, .ref sl]], (stW ty a r x y g), (stW ty b r2 x2 y2 g2)]) (bsr := [[la ty ot 1 of]]) [1, 2, 3] [0] 4 rfl (by decide +kernel) rfl rfl) (ci := 8) rfl 0 rfl rfl hl.1 rfl (Nat.le_of_ble_eq_true rfl) dL_runScript_6 ⟨Nat.le_of_ble_eq_true rfl, Nat.le_of_ble_eq_true rfl⟩ (fun E hE ce q9 H locs hP hD hS hce hcv hcl => ?_) (fun r9 u9 h9 H locs hP hD hS => ?_)
  · skip
    obtain ⟨hEE, h0⟩ := hE
    subst hEE
    have hP : va_P D vwCl (fl [[la ty ot 1 of], [ob bc 8 [.ref tx, .ref (a 0), .ref (b 0), .ref hi, .ref sl]], (stW ty a r x y g), (stW ty b r2 x2 y2 g2)]) H := P_perm (po (bs := [[ob bc 8 [.ref tx, .ref (a 0), .ref (b 0), .ref hi, .ref sl]], (stW ty a r x y g), (stW ty b r2 x2 y2 g2), [la ty ot 1 of]]) [3, 0, 1, 2] 4 rfl (by decide +kernel) rfl) hP
    have hD : va_D A (fl [[la ty ot 1 of], [ob bc 8 [.ref tx, .ref (a 0), .ref (b 0), .ref hi, .ref sl]], (stW ty a r x y g), (stW ty b r2 x2 y2 g2)]) := D_perm (po (bs := [[ob bc 8 [.ref tx, .ref (a 0), .ref (b 0), .ref hi, .ref sl]], (stW ty a r x y g), (stW ty b r2 x2 y2 g2), [la ty ot 1 of]]) [3, 0, 1, 2] 4 rfl (by decide +kernel) rfl) hD
    refine vx_catch (own := RL) (name := EIA) (E := EIA) hown [] ⟨0, 11, 14, 13⟩ [] (ht0.trans rfl) (fun z hz => by cases hz) (by decide) (by decide) (hts (Cond.classLink RL 13 "java/lang/IllegalArgumentException") (List.mem_of_getElem? (i := 1) rfl)) (va_Nw.use rfl hX.1.2.2.1.1) hce hcv hcl ?_
    refine lv_astore (lv' := [(5, .ref q9), (0, .ref bc), (1, .int 3), (2, .long (lN wn)), (4, .ref ot)]) hx hb dL_runScript_14 hl (by decide) rfl (fun ls hl => ?_)
    refine lv_iconst (v := 1) hx hb dL_runScript_16 (by decide) ?_
    have hP : va_P D vwCl (fl [[la ty ot 1 of], [ob bc 8 [.ref tx, .ref (a 0), .ref (b 0), .ref hi, .ref sl]], (stW ty a r x y g), (stW ty b r2 x2 y2 g2)]) H := hP
    have hD : va_D A (fl [[la ty ot 1 of], [ob bc 8 [.ref tx, .ref (a 0), .ref (b 0), .ref hi, .ref sl]], (stW ty a r x y g), (stW ty b r2 x2 y2 g2)]) := hD
    exact end_i (bs' := (fun (_ : Unit) => [[la ty ot 1 of], [ob bc 8 [.ref tx, .ref (a 0), .ref (b 0), .ref hi, .ref sl]], (stW ty a r x y g), (stW ty b r2 x2 y2 g2)])) () hx hb hr hlocks hP hD hS (by first | rfl | decide | simp []) (Nat.le_of_ble_eq_true rfl) (Nat.le_of_ble_eq_true rfl) dL_runScript_17
  · exact absurd h9.2 hc0
set_option maxHeartbeats 4000000 in
set_option maxRecDepth 100000 in
theorem c_L_runScriptN_n0 (l : Launch) (D : va_G) (ty : Nat → ClassId) (v9 : Int32) (w9 : Int64) (bc tx hi sl : Nat) (b : Nat → Nat) (a : Nat → Nat) (ot : Nat) (of : Nat → Int64) (hst : l.stackTraces = false) (hn : inR v9 1 3 → lg_cmp w9 0 < 0) : CTi l yL_runScript wsL_runScript ({ frames := 8, cells := 2, slots := 12, locals := 128 }) D ty [.ref bc, .int v9, .long w9, .ref ot] [[la ty ot 1 of], [ob bc 8 [.ref tx, .ref (a 0), .ref (b 0), .ref hi, .ref sl]]] (fun (RET : Int32) (_ : Unit) => RET = 1) (fun (_ : Unit) => [[la ty ot 1 of], [ob bc 8 [.ref tx, .ref (a 0), .ref (b 0), .ref hi, .ref sl]]]) := by
  refine CTi_ofH cL_runScript 6 (some .int) [(0, 11, 14, 13)] (by decide) rfl (Nat.le_of_ble_eq_true rfl) ?_
  intro p e s m args below meth c A hx hb hr hml hown hlocks hin hts hA hX hK hP hD ht0 ls hl
  have hown : s.vm.findClass RL = some m.cls := hown
  have hS : va_S A s.heap s.heap [] := va_S.rf
  have hl : lv_has ls 6 [(0, .ref bc), (1, .int v9), (2, .long w9), (4, .ref ot)] := hl
  refine lv_aload hx hb dL_runScript_0 (lv_at hl 3 rfl) ?_
  refine lv_iconst (v := 0) hx hb dL_runScript_2 (by decide) ?_
  refine lv_aload_n hx hb dL_runScript_3 rfl (lv_at hl 0 rfl) ?_
  refine lv_iload_n hx hb dL_runScript_4 rfl (lv_at hl 1 rfl) ?_
  refine lv_lload_n hx hb dL_runScript_5 rfl (lv_at hl 2 rfl) ?_
  refine cVxi (As := [.int v9, .long w9]) (rest := [.int 0, .ref ot]) ⟨hx, hb, hml, hown, hts⟩ (c_X9_runScriptN l D ty v9 w9 bc tx hi sl b a hst hn) (cwV 2 hts gL_runScript_X9_runScript rfl rfl rfl (by decide +kernel) ⟨Nat.le_of_ble_eq_true rfl, Nat.le_of_ble_eq_true rfl⟩) hK hX hP hD hS hA (pk (bs := [[la ty ot 1 of], [ob bc 8 [.ref tx, .ref (a 0), .ref (b 0), .ref hi, .ref sl]]]) (bsc := [[ob bc 8 [.ref tx, .ref (a 0), .ref (b 0), .ref hi, .ref sl]]]) (bsr := [[la ty ot 1 of]]) [1] [0] 2 rfl (by decide +kernel) rfl rfl) (ci := 8) rfl 0 rfl rfl hl.1 rfl (Nat.le_of_ble_eq_true rfl) dL_runScript_6 ⟨Nat.le_of_ble_eq_true rfl, Nat.le_of_ble_eq_true rfl⟩ (fun E hE ce q9 H locs hP hD hS hce hcv hcl => ?_) (fun r9 u9 h9 H locs hP hD hS => ?_)
  · skip
    have hEE : E = EIA := hE
    subst hEE
    have hP : va_P D vwCl (fl [[la ty ot 1 of], [ob bc 8 [.ref tx, .ref (a 0), .ref (b 0), .ref hi, .ref sl]]]) H := P_perm (po (bs := [[ob bc 8 [.ref tx, .ref (a 0), .ref (b 0), .ref hi, .ref sl]], [la ty ot 1 of]]) [1, 0] 2 rfl (by decide +kernel) rfl) hP
    have hD : va_D A (fl [[la ty ot 1 of], [ob bc 8 [.ref tx, .ref (a 0), .ref (b 0), .ref hi, .ref sl]]]) := D_perm (po (bs := [[ob bc 8 [.ref tx, .ref (a 0), .ref (b 0), .ref hi, .ref sl]], [la ty ot 1 of]]) [1, 0] 2 rfl (by decide +kernel) rfl) hD
    refine vx_catch (own := RL) (name := EIA) (E := EIA) hown [] ⟨0, 11, 14, 13⟩ [] (ht0.trans rfl) (fun z hz => by cases hz) (by decide) (by decide) (hts (Cond.classLink RL 13 "java/lang/IllegalArgumentException") (List.mem_of_getElem? (i := 1) rfl)) (va_Nw.use rfl hX.1.2.2.1.1) hce hcv hcl ?_
    refine lv_astore (lv' := [(5, .ref q9), (0, .ref bc), (1, .int v9), (2, .long w9), (4, .ref ot)]) hx hb dL_runScript_14 hl (by decide) rfl (fun ls hl => ?_)
    refine lv_iconst (v := 1) hx hb dL_runScript_16 (by decide) ?_
    have hP : va_P D vwCl (fl [[la ty ot 1 of], [ob bc 8 [.ref tx, .ref (a 0), .ref (b 0), .ref hi, .ref sl]]]) H := hP
    have hD : va_D A (fl [[la ty ot 1 of], [ob bc 8 [.ref tx, .ref (a 0), .ref (b 0), .ref hi, .ref sl]]]) := hD
    exact end_i (bs' := (fun (_ : Unit) => [[la ty ot 1 of], [ob bc 8 [.ref tx, .ref (a 0), .ref (b 0), .ref hi, .ref sl]]])) () hx hb hr hlocks hP hD hS (by first | rfl | decide | simp []) (Nat.le_of_ble_eq_true rfl) (Nat.le_of_ble_eq_true rfl) dL_runScript_17
  · exact h9.2.elim
set_option maxHeartbeats 4000000 in
set_option maxRecDepth 100000 in
theorem c_L_simulate (l : Launch) (D : va_G) (ty : Nat → ClassId) (w9 : Int64) (mm : Nat) (bc tx hi sl : Nat) (b : Nat → Nat) (a : Nat → Nat) (r : Nat → Int32) (x y : Int64) (g : Nat → Nat → Int32) (r2 : Nat → Int32) (x2 y2 : Int64) (g2 : Nat → Nat → Int32) (ot : Nat) (of : Nat → Int64) (hst : l.stackTraces = false) (h1 : 1 ≤ mm) (h60 : mm ≤ 60) (hp : Pw r) : CTi l yL_simulate wsL_simulate ({ frames := 8, cells := 1, slots := 6, locals := 134 }) D ty [.ref bc, .long w9, .int (nI mm), .ref ot] [[la ty ot 1 of], [ob bc 8 [.ref tx, .ref (a 0), .ref (b 0), .ref hi, .ref sl]], (stW ty a r x y g), (stW ty b r2 x2 y2 g2)] (fun (RET : Int32) (_ : Unit) => RET = 0) (fun (_ : Unit) => [[la ty ot 1 (vp_updL of 0 (Int32.toInt64 (100 * (simR simK simN mm w9 r) 7 + 10 * pdom (simR simK simN mm w9 r) + (simR simK simN mm w9 r) 11)))], [ob bc 8 [.ref tx, .ref (a 0), .ref (b 0), .ref hi, .ref sl]], (stW ty a r x y g), (stW ty b (simR simK simN mm w9 r) (simX simK simN mm w9 r x) (simY simK simN mm w9 r y) (simG simK simN mm w9 r g))]) := by
  refine CTi_ofH cL_simulate 6 (some .int) [(0, 11, 14, 13)] (by decide) rfl (Nat.le_of_ble_eq_true rfl) ?_
  intro p e s m args below meth c A hx hb hr hml hown hlocks hin hts hA hX hK hP hD ht0 ls hl
  have hown : s.vm.findClass RL = some m.cls := hown
  have hS : va_S A s.heap s.heap [] := va_S.rf
  have hl : lv_has ls 6 [(0, .ref bc), (1, .long w9), (3, .int (nI mm)), (4, .ref ot)] := hl
  refine lv_aload hx hb dL_simulate_0 (lv_at hl 3 rfl) ?_
  refine lv_iconst (v := 0) hx hb dL_simulate_2 (by decide) ?_
  refine lv_aload_n hx hb dL_simulate_3 rfl (lv_at hl 0 rfl) ?_
  refine lv_lload_n hx hb dL_simulate_4 rfl (lv_at hl 1 rfl) ?_
  refine lv_iload_n hx hb dL_simulate_5 rfl (lv_at hl 2 rfl) ?_
  refine cVxi (As := [.long w9, .int (nI mm)]) (rest := [.int 0, .ref ot]) ⟨hx, hb, hml, hown, hts⟩ (c_X9_simulate l D ty w9 mm bc tx hi sl b a r x y g r2 x2 y2 g2 hst h1 h60 hp) (cwV 2 hts gL_simulate_X9_simulate rfl rfl rfl (by decide +kernel) ⟨Nat.le_of_ble_eq_true rfl, Nat.le_of_ble_eq_true rfl⟩) hK hX hP hD hS hA (pk (bs := [[la ty ot 1 of], [ob bc 8 [.ref tx, .ref (a 0), .ref (b 0), .ref hi, .ref sl]], (stW ty a r x y g), (stW ty b r2 x2 y2 g2)]) (bsc := [[ob bc 8 [.ref tx, .ref (a 0), .ref (b 0), .ref hi, .ref sl]], (stW ty a r x y g), (stW ty b r2 x2 y2 g2)]) (bsr := [[la ty ot 1 of]]) [1, 2, 3] [0] 4 rfl (by decide +kernel) rfl rfl) (ci := 8) rfl 0 rfl rfl hl.1 rfl (Nat.le_of_ble_eq_true rfl) dL_simulate_6 ⟨Nat.le_of_ble_eq_true rfl, Nat.le_of_ble_eq_true rfl⟩ (fun E hE ce q9 H locs hP hD hS hce hcv hcl => ?_) (fun r9 u9 h9 H locs hP hD hS => ?_)
  · skip
    exact hE.elim
  · skip
    have hP : va_P D vwCl (fl [[la ty ot 1 of], [ob bc 8 [.ref tx, .ref (a 0), .ref (b 0), .ref hi, .ref sl]], (stW ty a r x y g), (stW ty b (simR simK simN mm w9 r) (simX simK simN mm w9 r x) (simY simK simN mm w9 r y) (simG simK simN mm w9 r g))]) H := P_perm (po (bs := [[ob bc 8 [.ref tx, .ref (a 0), .ref (b 0), .ref hi, .ref sl]], (stW ty a r x y g), (stW ty b (simR simK simN mm w9 r) (simX simK simN mm w9 r x) (simY simK simN mm w9 r y) (simG simK simN mm w9 r g)), [la ty ot 1 of]]) [3, 0, 1, 2] 4 rfl (by decide +kernel) rfl) hP
    have hD : va_D A (fl [[la ty ot 1 of], [ob bc 8 [.ref tx, .ref (a 0), .ref (b 0), .ref hi, .ref sl]], (stW ty a r x y g), (stW ty b (simR simK simN mm w9 r) (simX simK simN mm w9 r x) (simY simK simN mm w9 r y) (simG simK simN mm w9 r g))]) := D_perm (po (bs := [[ob bc 8 [.ref tx, .ref (a 0), .ref (b 0), .ref hi, .ref sl]], (stW ty a r x y g), (stW ty b (simR simK simN mm w9 r) (simX simK simN mm w9 r x) (simY simK simN mm w9 r y) (simG simK simN mm w9 r g)), [la ty ot 1 of]]) [3, 0, 1, 2] 4 rfl (by decide +kernel) rfl) hD
    have h8 : r9 = (100 * (simR simK simN mm w9 r) 7 + 10 * pdom (simR simK simN mm w9 r) + (simR simK simN mm w9 r) 11) := h9.1
    subst h8
    refine lv_i2l (v := (Int32.toInt64 (100 * (simR simK simN mm w9 r) 7 + 10 * pdom (simR simK simN mm w9 r) + (simR simK simN mm w9 r) 11))) hx hb dL_simulate_9 rfl ?_
    refine k_last hx hb hK hP hD hS 0 rfl 0 rfl (by decide) (Nat.le_of_ble_eq_true rfl) dL_simulate_10 (fun H locs hP hD hS => ?_)
    have hP : va_P D vwCl (fl [[la ty ot 1 (vp_updL of 0 (Int32.toInt64 (100 * (simR simK simN mm w9 r) 7 + 10 * pdom (simR simK simN mm w9 r) + (simR simK simN mm w9 r) 11)))], [ob bc 8 [.ref tx, .ref (a 0), .ref (b 0), .ref hi, .ref sl]], (stW ty a r x y g), (stW ty b (simR simK simN mm w9 r) (simX simK simN mm w9 r x) (simY simK simN mm w9 r y) (simG simK simN mm w9 r g))]) H := hP
    have hD : va_D A (fl [[la ty ot 1 (vp_updL of 0 (Int32.toInt64 (100 * (simR simK simN mm w9 r) 7 + 10 * pdom (simR simK simN mm w9 r) + (simR simK simN mm w9 r) 11)))], [ob bc 8 [.ref tx, .ref (a 0), .ref (b 0), .ref hi, .ref sl]], (stW ty a r x y g), (stW ty b (simR simK simN mm w9 r) (simX simK simN mm w9 r x) (simY simK simN mm w9 r y) (simG simK simN mm w9 r g))]) := hD
    refine lv_goto (tgt := 18) hx hb dL_simulate_11 (by decide) ?_
    refine lv_iconst (v := 0) hx hb dL_simulate_18 (by decide) ?_
    have hP : va_P D vwCl (fl [[la ty ot 1 (vp_updL of 0 (Int32.toInt64 (100 * (simR simK simN mm w9 r) 7 + 10 * pdom (simR simK simN mm w9 r) + (simR simK simN mm w9 r) 11)))], [ob bc 8 [.ref tx, .ref (a 0), .ref (b 0), .ref hi, .ref sl]], (stW ty a r x y g), (stW ty b (simR simK simN mm w9 r) (simX simK simN mm w9 r x) (simY simK simN mm w9 r y) (simG simK simN mm w9 r g))]) H := hP
    have hD : va_D A (fl [[la ty ot 1 (vp_updL of 0 (Int32.toInt64 (100 * (simR simK simN mm w9 r) 7 + 10 * pdom (simR simK simN mm w9 r) + (simR simK simN mm w9 r) 11)))], [ob bc 8 [.ref tx, .ref (a 0), .ref (b 0), .ref hi, .ref sl]], (stW ty a r x y g), (stW ty b (simR simK simN mm w9 r) (simX simK simN mm w9 r x) (simY simK simN mm w9 r y) (simG simK simN mm w9 r g))]) := hD
    exact end_i (bs' := (fun (_ : Unit) => [[la ty ot 1 (vp_updL of 0 (Int32.toInt64 (100 * (simR simK simN mm w9 r) 7 + 10 * pdom (simR simK simN mm w9 r) + (simR simK simN mm w9 r) 11)))], [ob bc 8 [.ref tx, .ref (a 0), .ref (b 0), .ref hi, .ref sl]], (stW ty a r x y g), (stW ty b (simR simK simN mm w9 r) (simX simK simN mm w9 r x) (simY simK simN mm w9 r y) (simG simK simN mm w9 r g))])) () hx hb hr hlocks hP hD hS (by first | rfl | decide | simp []) (Nat.le_of_ble_eq_true rfl) (Nat.le_of_ble_eq_true rfl) dL_simulate_19
set_option maxHeartbeats 4000000 in
set_option maxRecDepth 100000 in
theorem c_L_simulateN_n0 (l : Launch) (D : va_G) (ty : Nat → ClassId) (w9 : Int64) (v9 : Int32) (bc tx hi sl : Nat) (b : Nat → Nat) (a : Nat → Nat) (r : Nat → Int32) (x y : Int64) (g : Nat → Nat → Int32) (r2 : Nat → Int32) (x2 y2 : Int64) (g2 : Nat → Nat → Int32) (ot : Nat) (of : Nat → Int64) (hst : l.stackTraces = false) (hn : ¬ inR v9 1 60) : CTi l yL_simulate wsL_simulate ({ frames := 8, cells := 1, slots := 6, locals := 131 }) D ty [.ref bc, .long w9, .int v9, .ref ot] [[la ty ot 1 of], [ob bc 8 [.ref tx, .ref (a 0), .ref (b 0), .ref hi, .ref sl]], (stW ty a r x y g), (stW ty b r2 x2 y2 g2)] (fun (RET : Int32) (_ : Unit) => RET = 1) (fun (_ : Unit) => [[la ty ot 1 of], [ob bc 8 [.ref tx, .ref (a 0), .ref (b 0), .ref hi, .ref sl]], (stW ty a r x y g), (stW ty b r2 x2 y2 g2)]) := by
  refine CTi_ofH cL_simulate 6 (some .int) [(0, 11, 14, 13)] (by decide) rfl (Nat.le_of_ble_eq_true rfl) ?_
  intro p e s m args below meth c A hx hb hr hml hown hlocks hin hts hA hX hK hP hD ht0 ls hl
  have hown : s.vm.findClass RL = some m.cls := hown
  have hS : va_S A s.heap s.heap [] := va_S.rf
  have hl : lv_has ls 6 [(0, .ref bc), (1, .long w9), (3, .int v9), (4, .ref ot)] := hl
  refine lv_aload hx hb dL_simulate_0 (lv_at hl 3 rfl) ?_
  refine lv_iconst (v := 0) hx hb dL_simulate_2 (by decide) ?_
  refine lv_aload_n hx hb dL_simulate_3 rfl (lv_at hl 0 rfl) ?_
  refine lv_lload_n hx hb dL_simulate_4 rfl (lv_at hl 1 rfl) ?_
  refine lv_iload_n hx hb dL_simulate_5 rfl (lv_at hl 2 rfl) ?_
  refine cVxi (As := [.long w9, .int v9]) (rest := [.int 0, .ref ot]) ⟨hx, hb, hml, hown, hts⟩ (c_X9_simulateN l D ty w9 v9 bc tx hi sl b a r x y g r2 x2 y2 g2 hst hn) (cwV 2 hts gL_simulate_X9_simulate rfl rfl rfl (by decide +kernel) ⟨Nat.le_of_ble_eq_true rfl, Nat.le_of_ble_eq_true rfl⟩) hK hX hP hD hS hA (pk (bs := [[la ty ot 1 of], [ob bc 8 [.ref tx, .ref (a 0), .ref (b 0), .ref hi, .ref sl]], (stW ty a r x y g), (stW ty b r2 x2 y2 g2)]) (bsc := [[ob bc 8 [.ref tx, .ref (a 0), .ref (b 0), .ref hi, .ref sl]], (stW ty a r x y g), (stW ty b r2 x2 y2 g2)]) (bsr := [[la ty ot 1 of]]) [1, 2, 3] [0] 4 rfl (by decide +kernel) rfl rfl) (ci := 8) rfl 0 rfl rfl hl.1 rfl (Nat.le_of_ble_eq_true rfl) dL_simulate_6 ⟨Nat.le_of_ble_eq_true rfl, Nat.le_of_ble_eq_true rfl⟩ (fun E hE ce q9 H locs hP hD hS hce hcv hcl => ?_) (fun r9 u9 h9 H locs hP hD hS => ?_)
  · skip
    have hEE : E = EIA := hE
    subst hEE
    have hP : va_P D vwCl (fl [[la ty ot 1 of], [ob bc 8 [.ref tx, .ref (a 0), .ref (b 0), .ref hi, .ref sl]], (stW ty a r x y g), (stW ty b r2 x2 y2 g2)]) H := P_perm (po (bs := [[ob bc 8 [.ref tx, .ref (a 0), .ref (b 0), .ref hi, .ref sl]], (stW ty a r x y g), (stW ty b r2 x2 y2 g2), [la ty ot 1 of]]) [3, 0, 1, 2] 4 rfl (by decide +kernel) rfl) hP
    have hD : va_D A (fl [[la ty ot 1 of], [ob bc 8 [.ref tx, .ref (a 0), .ref (b 0), .ref hi, .ref sl]], (stW ty a r x y g), (stW ty b r2 x2 y2 g2)]) := D_perm (po (bs := [[ob bc 8 [.ref tx, .ref (a 0), .ref (b 0), .ref hi, .ref sl]], (stW ty a r x y g), (stW ty b r2 x2 y2 g2), [la ty ot 1 of]]) [3, 0, 1, 2] 4 rfl (by decide +kernel) rfl) hD
    refine vx_catch (own := RL) (name := EIA) (E := EIA) hown [] ⟨0, 11, 14, 13⟩ [] (ht0.trans rfl) (fun z hz => by cases hz) (by decide) (by decide) (hts (Cond.classLink RL 13 "java/lang/IllegalArgumentException") (List.mem_of_getElem? (i := 1) rfl)) (va_Nw.use rfl hX.1.2.2.1.1) hce hcv hcl ?_
    refine lv_astore (lv' := [(5, .ref q9), (0, .ref bc), (1, .long w9), (3, .int v9), (4, .ref ot)]) hx hb dL_simulate_14 hl (by decide) rfl (fun ls hl => ?_)
    refine lv_iconst (v := 1) hx hb dL_simulate_16 (by decide) ?_
    have hP : va_P D vwCl (fl [[la ty ot 1 of], [ob bc 8 [.ref tx, .ref (a 0), .ref (b 0), .ref hi, .ref sl]], (stW ty a r x y g), (stW ty b r2 x2 y2 g2)]) H := hP
    have hD : va_D A (fl [[la ty ot 1 of], [ob bc 8 [.ref tx, .ref (a 0), .ref (b 0), .ref hi, .ref sl]], (stW ty a r x y g), (stW ty b r2 x2 y2 g2)]) := hD
    exact end_i (bs' := (fun (_ : Unit) => [[la ty ot 1 of], [ob bc 8 [.ref tx, .ref (a 0), .ref (b 0), .ref hi, .ref sl]], (stW ty a r x y g), (stW ty b r2 x2 y2 g2)])) () hx hb hr hlocks hP hD hS (by first | rfl | decide | simp []) (Nat.le_of_ble_eq_true rfl) (Nat.le_of_ble_eq_true rfl) dL_simulate_17
  · exact h9.2.elim
