set_option maxHeartbeats 4000000 in
set_option maxRecDepth 100000 in
theorem c_L_ahead_n1 (l : Launch) (D : va_G) (ty : Nat → ClassId) (m9 w9 : Int32) (bc tx hi sl : Nat) (b : Nat → Nat) (a : Nat → Nat) (r : Nat → Int32) (x y : Int64) (g : Nat → Nat → Int32) (r2 : Nat → Int32) (x2 y2 : Int64) (g2 : Nat → Nat → Int32) (ot : Nat) (of : Nat → Int64) (hst : l.stackTraces = false) (hw : Iw r) (hc0 : inR m9 0 1440) (hc1 : ¬ (inR w9 0 5)) : CTi l yL_ahead wsL_ahead ({ frames := 8, cells := 2, slots := 12, locals := 129 }) D ty [.ref bc, .int m9, .int w9, .ref ot] [[la ty ot 1 of], [ob bc 8 [.ref tx, .ref (a 0), .ref (b 0), .ref hi, .ref sl]], (stW ty a r x y g), (stW ty b r2 x2 y2 g2)] (fun (RET : Int32) (_ : Unit) => RET = 1) (fun (_ : Unit) => [[la ty ot 1 of], [ob bc 8 [.ref tx, .ref (a 0), .ref (b 0), .ref hi, .ref sl]], (stW ty a r x y g), (stW ty b r2 x2 y2 g2)]) := by
  refine CTi_ofH cL_ahead 5 (some .int) [(0, 10, 13, 13)] (by decide) rfl (Nat.le_of_ble_eq_true rfl) ?_
  intro p e s m args below meth c A hx hb hr hml hown hlocks hin hts hA hX hK hP hD ht0 ls hl
  have hown : s.vm.findClass RL = some m.cls := hown
  have hS : va_S A s.heap s.heap [] := va_S.rf
  have hl : lv_has ls 5 [(0, .ref bc), (1, .int m9), (2, .int w9), (3, .ref ot)] := hl
  refine lv_aload_n hx hb dL_ahead_0 rfl (lv_at hl 3 rfl) ?_
  refine lv_iconst (v := 0) hx hb dL_ahead_1 (by decide) ?_
  refine lv_aload_n hx hb dL_ahead_2 rfl (lv_at hl 0 rfl) ?_
  refine lv_iload_n hx hb dL_ahead_3 rfl (lv_at hl 1 rfl) ?_
  refine lv_iload_n hx hb dL_ahead_4 rfl (lv_at hl 2 rfl) ?_
  refine cVxi (As := [.int m9, .int w9]) (rest := [.int 0, .ref ot]) ⟨hx, hb, hml, hown, hts⟩ (c_X9_ahead l D ty m9 w9 bc tx hi sl b a r x y g r2 x2 y2 g2 hst hw) (cwV 2 hts gL_ahead_X9_ahead rfl rfl rfl (by decide +kernel) ⟨Nat.le_of_ble_eq_true rfl, Nat.le_of_ble_eq_true rfl⟩) hK hX hP hD hS hA (pk (bs := [[la ty ot 1 of], [ob bc 8 [.ref tx, .ref (a 0), .ref (b 0), .ref hi, .ref sl]], (stW ty a r x y g), (stW ty b r2 x2 y2 g2)]) (bsc := [[ob bc 8 [.ref tx, .ref (a 0), .ref (b 0), .ref hi, .ref sl]], (stW ty a r x y g), (stW ty b r2 x2 y2 g2)]) (bsr := [[la ty ot 1 of]]) [1, 2, 3] [0] 4 rfl (by decide +kernel) rfl rfl) (ci := 8) rfl 0 rfl rfl hl.1 rfl (Nat.le_of_ble_eq_true rfl) dL_ahead_5 ⟨Nat.le_of_ble_eq_true rfl, Nat.le_of_ble_eq_true rfl⟩ (fun E hE ce q9 H locs hP hD hS hce hcv hcl => ?_) (fun r9 u9 h9 H locs hP hD hS => ?_)
  · skip
    rcases hE with ⟨hEE, h0⟩ | ⟨hEE, k0, h1⟩
    · skip
      exact absurd hc0 h0
    · skip
      subst hEE
      have hP : va_P D vwCl (fl [[la ty ot 1 of], [ob bc 8 [.ref tx, .ref (a 0), .ref (b 0), .ref hi, .ref sl]], (stW ty a r x y g), (stW ty b r2 x2 y2 g2)]) H := P_perm (po (bs := [[ob bc 8 [.ref tx, .ref (a 0), .ref (b 0), .ref hi, .ref sl]], (stW ty a r x y g), (stW ty b r2 x2 y2 g2), [la ty ot 1 of]]) [3, 0, 1, 2] 4 rfl (by decide +kernel) rfl) hP
      have hD : va_D A (fl [[la ty ot 1 of], [ob bc 8 [.ref tx, .ref (a 0), .ref (b 0), .ref hi, .ref sl]], (stW ty a r x y g), (stW ty b r2 x2 y2 g2)]) := D_perm (po (bs := [[ob bc 8 [.ref tx, .ref (a 0), .ref (b 0), .ref hi, .ref sl]], (stW ty a r x y g), (stW ty b r2 x2 y2 g2), [la ty ot 1 of]]) [3, 0, 1, 2] 4 rfl (by decide +kernel) rfl) hD
      refine vx_catch (own := RL) (name := EIA) (E := EIA) hown [] ⟨0, 10, 13, 13⟩ [] (ht0.trans rfl) (fun z hz => by cases hz) (by decide) (by decide) (hts (Cond.classLink RL 13 "java/lang/IllegalArgumentException") (List.mem_of_getElem? (i := 1) rfl)) (va_Nw.use rfl hX.1.2.2.1.1) hce hcv hcl ?_
      refine lv_astore (lv' := [(4, .ref q9), (0, .ref bc), (1, .int m9), (2, .int w9), (3, .ref ot)]) hx hb dL_ahead_13 hl (by decide) rfl (fun ls hl => ?_)
      refine lv_iconst (v := 1) hx hb dL_ahead_15 (by decide) ?_
      have hP : va_P D vwCl (fl [[la ty ot 1 of], [ob bc 8 [.ref tx, .ref (a 0), .ref (b 0), .ref hi, .ref sl]], (stW ty a r x y g), (stW ty b r2 x2 y2 g2)]) H := hP
      have hD : va_D A (fl [[la ty ot 1 of], [ob bc 8 [.ref tx, .ref (a 0), .ref (b 0), .ref hi, .ref sl]], (stW ty a r x y g), (stW ty b r2 x2 y2 g2)]) := hD
      exact end_i (bs' := (fun (_ : Unit) => [[la ty ot 1 of], [ob bc 8 [.ref tx, .ref (a 0), .ref (b 0), .ref hi, .ref sl]], (stW ty a r x y g), (stW ty b r2 x2 y2 g2)])) () hx hb hr hlocks hP hD hS (by first | rfl | decide | simp []) (Nat.le_of_ble_eq_true rfl) (Nat.le_of_ble_eq_true rfl) dL_ahead_16
  · exact absurd h9.2.2 hc1
set_option maxHeartbeats 4000000 in
set_option maxRecDepth 100000 in
theorem c_L_dueAfter (l : Launch) (D : va_G) (ty : Nat → ClassId) (i9 : Int32) (bc tx hi sl : Nat) (b : Nat → Nat) (a : Nat → Nat) (r : Nat → Int32) (x y : Int64) (g : Nat → Nat → Int32) (r2 : Nat → Int32) (x2 y2 : Int64) (g2 : Nat → Nat → Int32) (ot : Nat) (of : Nat → Int64) (hst : l.stackTraces = false) (hw : Iw r) (hc0 : inI i9 4) : CTi l yL_dueAfter wsL_dueAfter ({ frames := 8, cells := 1, slots := 6, locals := 126 }) D ty [.ref bc, .int i9, .ref ot] [[la ty ot 1 of], [ob bc 8 [.ref tx, .ref (a 0), .ref (b 0), .ref hi, .ref sl]], (stW ty a r x y g), (stW ty b r2 x2 y2 g2)] (fun (RET : Int32) (_ : Unit) => RET = 0) (fun (_ : Unit) => [[la ty ot 1 (vp_updL of 0 (Int32.toInt64 (dueF i9.toNatClampNeg 3000 1 r)))], [ob bc 8 [.ref tx, .ref (a 0), .ref (b 0), .ref hi, .ref sl]], (stW ty a r x y g), (stW ty b (minsR (dueM i9.toNatClampNeg 3000 r) r) (minsX (dueM i9.toNatClampNeg 3000 r) r x) (minsY (dueM i9.toNatClampNeg 3000 r) r y) g)]) := by
  refine CTi_ofH cL_dueAfter 4 (some .int) [(0, 9, 12, 31)] (by decide) rfl (Nat.le_of_ble_eq_true rfl) ?_
  intro p e s m args below meth c A hx hb hr hml hown hlocks hin hts hA hX hK hP hD ht0 ls hl
  have hown : s.vm.findClass RL = some m.cls := hown
  have hS : va_S A s.heap s.heap [] := va_S.rf
  have hl : lv_has ls 4 [(0, .ref bc), (1, .int i9), (2, .ref ot)] := hl
  refine lv_aload_n hx hb dL_dueAfter_0 rfl (lv_at hl 2 rfl) ?_
  refine lv_iconst (v := 0) hx hb dL_dueAfter_1 (by decide) ?_
  refine lv_aload_n hx hb dL_dueAfter_2 rfl (lv_at hl 0 rfl) ?_
  refine lv_iload_n hx hb dL_dueAfter_3 rfl (lv_at hl 1 rfl) ?_
  refine cVxi (As := [.int i9]) (rest := [.int 0, .ref ot]) ⟨hx, hb, hml, hown, hts⟩ (c_X9_dueAfter l D ty i9 bc tx hi sl b a r x y g r2 x2 y2 g2 hst hw) (cwV 1 hts gL_dueAfter_X9_dueAfter rfl rfl rfl (by decide +kernel) ⟨Nat.le_of_ble_eq_true rfl, Nat.le_of_ble_eq_true rfl⟩) hK hX hP hD hS hA (pk (bs := [[la ty ot 1 of], [ob bc 8 [.ref tx, .ref (a 0), .ref (b 0), .ref hi, .ref sl]], (stW ty a r x y g), (stW ty b r2 x2 y2 g2)]) (bsc := [[ob bc 8 [.ref tx, .ref (a 0), .ref (b 0), .ref hi, .ref sl]], (stW ty a r x y g), (stW ty b r2 x2 y2 g2)]) (bsr := [[la ty ot 1 of]]) [1, 2, 3] [0] 4 rfl (by decide +kernel) rfl rfl) (ci := 8) rfl 0 rfl rfl hl.1 rfl (Nat.le_of_ble_eq_true rfl) dL_dueAfter_4 ⟨Nat.le_of_ble_eq_true rfl, Nat.le_of_ble_eq_true rfl⟩ (fun E hE ce q9 H locs hP hD hS hce hcv hcl => ?_) (fun r9 u9 h9 H locs hP hD hS => ?_)
  · skip
    obtain ⟨hEE, h0⟩ := hE
    exact absurd hc0 h0
  · skip
    have hP : va_P D vwCl (fl [[la ty ot 1 of], [ob bc 8 [.ref tx, .ref (a 0), .ref (b 0), .ref hi, .ref sl]], (stW ty a r x y g), (stW ty b (minsR (dueM i9.toNatClampNeg 3000 r) r) (minsX (dueM i9.toNatClampNeg 3000 r) r x) (minsY (dueM i9.toNatClampNeg 3000 r) r y) g)]) H := P_perm (po (bs := [[ob bc 8 [.ref tx, .ref (a 0), .ref (b 0), .ref hi, .ref sl]], (stW ty a r x y g), (stW ty b (minsR (dueM i9.toNatClampNeg 3000 r) r) (minsX (dueM i9.toNatClampNeg 3000 r) r x) (minsY (dueM i9.toNatClampNeg 3000 r) r y) g), [la ty ot 1 of]]) [3, 0, 1, 2] 4 rfl (by decide +kernel) rfl) hP
    have hD : va_D A (fl [[la ty ot 1 of], [ob bc 8 [.ref tx, .ref (a 0), .ref (b 0), .ref hi, .ref sl]], (stW ty a r x y g), (stW ty b (minsR (dueM i9.toNatClampNeg 3000 r) r) (minsX (dueM i9.toNatClampNeg 3000 r) r x) (minsY (dueM i9.toNatClampNeg 3000 r) r y) g)]) := D_perm (po (bs := [[ob bc 8 [.ref tx, .ref (a 0), .ref (b 0), .ref hi, .ref sl]], (stW ty a r x y g), (stW ty b (minsR (dueM i9.toNatClampNeg 3000 r) r) (minsX (dueM i9.toNatClampNeg 3000 r) r x) (minsY (dueM i9.toNatClampNeg 3000 r) r y) g), [la ty ot 1 of]]) [3, 0, 1, 2] 4 rfl (by decide +kernel) rfl) hD
    have h8 : r9 = (dueF i9.toNatClampNeg 3000 1 r) := h9.1
    subst h8
    refine lv_i2l (v := (Int32.toInt64 (dueF i9.toNatClampNeg 3000 1 r))) hx hb dL_dueAfter_7 rfl ?_
    refine k_last hx hb hK hP hD hS 0 rfl 0 rfl (by decide) (Nat.le_of_ble_eq_true rfl) dL_dueAfter_8 (fun H locs hP hD hS => ?_)
    have hP : va_P D vwCl (fl [[la ty ot 1 (vp_updL of 0 (Int32.toInt64 (dueF i9.toNatClampNeg 3000 1 r)))], [ob bc 8 [.ref tx, .ref (a 0), .ref (b 0), .ref hi, .ref sl]], (stW ty a r x y g), (stW ty b (minsR (dueM i9.toNatClampNeg 3000 r) r) (minsX (dueM i9.toNatClampNeg 3000 r) r x) (minsY (dueM i9.toNatClampNeg 3000 r) r y) g)]) H := hP
    have hD : va_D A (fl [[la ty ot 1 (vp_updL of 0 (Int32.toInt64 (dueF i9.toNatClampNeg 3000 1 r)))], [ob bc 8 [.ref tx, .ref (a 0), .ref (b 0), .ref hi, .ref sl]], (stW ty a r x y g), (stW ty b (minsR (dueM i9.toNatClampNeg 3000 r) r) (minsX (dueM i9.toNatClampNeg 3000 r) r x) (minsY (dueM i9.toNatClampNeg 3000 r) r y) g)]) := hD
    refine lv_goto (tgt := 15) hx hb dL_dueAfter_9 (by decide) ?_
    refine lv_iconst (v := 0) hx hb dL_dueAfter_15 (by decide) ?_
    have hP : va_P D vwCl (fl [[la ty ot 1 (vp_updL of 0 (Int32.toInt64 (dueF i9.toNatClampNeg 3000 1 r)))], [ob bc 8 [.ref tx, .ref (a 0), .ref (b 0), .ref hi, .ref sl]], (stW ty a r x y g), (stW ty b (minsR (dueM i9.toNatClampNeg 3000 r) r) (minsX (dueM i9.toNatClampNeg 3000 r) r x) (minsY (dueM i9.toNatClampNeg 3000 r) r y) g)]) H := hP
    have hD : va_D A (fl [[la ty ot 1 (vp_updL of 0 (Int32.toInt64 (dueF i9.toNatClampNeg 3000 1 r)))], [ob bc 8 [.ref tx, .ref (a 0), .ref (b 0), .ref hi, .ref sl]], (stW ty a r x y g), (stW ty b (minsR (dueM i9.toNatClampNeg 3000 r) r) (minsX (dueM i9.toNatClampNeg 3000 r) r x) (minsY (dueM i9.toNatClampNeg 3000 r) r y) g)]) := hD
    exact end_i (bs' := (fun (_ : Unit) => [[la ty ot 1 (vp_updL of 0 (Int32.toInt64 (dueF i9.toNatClampNeg 3000 1 r)))], [ob bc 8 [.ref tx, .ref (a 0), .ref (b 0), .ref hi, .ref sl]], (stW ty a r x y g), (stW ty b (minsR (dueM i9.toNatClampNeg 3000 r) r) (minsX (dueM i9.toNatClampNeg 3000 r) r x) (minsY (dueM i9.toNatClampNeg 3000 r) r y) g)])) () hx hb hr hlocks hP hD hS (by first | rfl | decide | simp []) (Nat.le_of_ble_eq_true rfl) (Nat.le_of_ble_eq_true rfl) dL_dueAfter_16
set_option maxHeartbeats 4000000 in
set_option maxRecDepth 100000 in
theorem c_L_dueAfter_n0 (l : Launch) (D : va_G) (ty : Nat → ClassId) (i9 : Int32) (bc tx hi sl : Nat) (b : Nat → Nat) (a : Nat → Nat) (r : Nat → Int32) (x y : Int64) (g : Nat → Nat → Int32) (r2 : Nat → Int32) (x2 y2 : Int64) (g2 : Nat → Nat → Int32) (ot : Nat) (of : Nat → Int64) (hst : l.stackTraces = false) (hw : Iw r) (hc0 : ¬ (inI i9 4)) : CTi l yL_dueAfter wsL_dueAfter ({ frames := 8, cells := 1, slots := 6, locals := 126 }) D ty [.ref bc, .int i9, .ref ot] [[la ty ot 1 of], [ob bc 8 [.ref tx, .ref (a 0), .ref (b 0), .ref hi, .ref sl]], (stW ty a r x y g), (stW ty b r2 x2 y2 g2)] (fun (RET : Int32) (_ : Unit) => RET = 1) (fun (_ : Unit) => [[la ty ot 1 of], [ob bc 8 [.ref tx, .ref (a 0), .ref (b 0), .ref hi, .ref sl]], (stW ty a r x y g), (stW ty b r2 x2 y2 g2)]) := by
  refine CTi_ofH cL_dueAfter 4 (some .int) [(0, 9, 12, 31)] (by decide) rfl (Nat.le_of_ble_eq_true rfl) ?_
  intro p e s m args below meth c A hx hb hr hml hown hlocks hin hts hA hX hK hP hD ht0 ls hl
  have hown : s.vm.findClass RL = some m.cls := hown
  have hS : va_S A s.heap s.heap [] := va_S.rf
  have hl : lv_has ls 4 [(0, .ref bc), (1, .int i9), (2, .ref ot)] := hl
  refine lv_aload_n hx hb dL_dueAfter_0 rfl (lv_at hl 2 rfl) ?_
  refine lv_iconst (v := 0) hx hb dL_dueAfter_1 (by decide) ?_
  refine lv_aload_n hx hb dL_dueAfter_2 rfl (lv_at hl 0 rfl) ?_
  refine lv_iload_n hx hb dL_dueAfter_3 rfl (lv_at hl 1 rfl) ?_
  refine cVxi (As := [.int i9]) (rest := [.int 0, .ref ot]) ⟨hx, hb, hml, hown, hts⟩ (c_X9_dueAfter l D ty i9 bc tx hi sl b a r x y g r2 x2 y2 g2 hst hw) (cwV 1 hts gL_dueAfter_X9_dueAfter rfl rfl rfl (by decide +kernel) ⟨Nat.le_of_ble_eq_true rfl, Nat.le_of_ble_eq_true rfl⟩) hK hX hP hD hS hA (pk (bs := [[la ty ot 1 of], [ob bc 8 [.ref tx, .ref (a 0), .ref (b 0), .ref hi, .ref sl]], (stW ty a r x y g), (stW ty b r2 x2 y2 g2)]) (bsc := [[ob bc 8 [.ref tx, .ref (a 0), .ref (b 0), .ref hi, .ref sl]], (stW ty a r x y g), (stW ty b r2 x2 y2 g2)]) (bsr := [[la ty ot 1 of]]) [1, 2, 3] [0] 4 rfl (by decide +kernel) rfl rfl) (ci := 8) rfl 0 rfl rfl hl.1 rfl (Nat.le_of_ble_eq_true rfl) dL_dueAfter_4 ⟨Nat.le_of_ble_eq_true rfl, Nat.le_of_ble_eq_true rfl⟩ (fun E hE ce q9 H locs hP hD hS hce hcv hcl => ?_) (fun r9 u9 h9 H locs hP hD hS => ?_)
  · skip
    obtain ⟨hEE, h0⟩ := hE
    subst hEE
    have hP : va_P D vwCl (fl [[la ty ot 1 of], [ob bc 8 [.ref tx, .ref (a 0), .ref (b 0), .ref hi, .ref sl]], (stW ty a r x y g), (stW ty b r2 x2 y2 g2)]) H := P_perm (po (bs := [[ob bc 8 [.ref tx, .ref (a 0), .ref (b 0), .ref hi, .ref sl]], (stW ty a r x y g), (stW ty b r2 x2 y2 g2), [la ty ot 1 of]]) [3, 0, 1, 2] 4 rfl (by decide +kernel) rfl) hP
    have hD : va_D A (fl [[la ty ot 1 of], [ob bc 8 [.ref tx, .ref (a 0), .ref (b 0), .ref hi, .ref sl]], (stW ty a r x y g), (stW ty b r2 x2 y2 g2)]) := D_perm (po (bs := [[ob bc 8 [.ref tx, .ref (a 0), .ref (b 0), .ref hi, .ref sl]], (stW ty a r x y g), (stW ty b r2 x2 y2 g2), [la ty ot 1 of]]) [3, 0, 1, 2] 4 rfl (by decide +kernel) rfl) hD
    refine vx_catch (own := RL) (name := EIO) (E := EIO) hown [] ⟨0, 9, 12, 31⟩ [] (ht0.trans rfl) (fun z hz => by cases hz) (by decide) (by decide) (hts (Cond.classLink RL 31 "java/lang/IndexOutOfBoundsException") (List.mem_of_getElem? (i := 1) rfl)) (va_Nw.use rfl hX.1.2.2.1.2.2) hce hcv hcl ?_
    refine lv_astore_n (lv' := [(3, .ref q9), (0, .ref bc), (1, .int i9), (2, .ref ot)]) hx hb dL_dueAfter_12 rfl hl (by decide) rfl (fun ls hl => ?_)
    refine lv_iconst (v := 1) hx hb dL_dueAfter_13 (by decide) ?_
    have hP : va_P D vwCl (fl [[la ty ot 1 of], [ob bc 8 [.ref tx, .ref (a 0), .ref (b 0), .ref hi, .ref sl]], (stW ty a r x y g), (stW ty b r2 x2 y2 g2)]) H := hP
    have hD : va_D A (fl [[la ty ot 1 of], [ob bc 8 [.ref tx, .ref (a 0), .ref (b 0), .ref hi, .ref sl]], (stW ty a r x y g), (stW ty b r2 x2 y2 g2)]) := hD
    exact end_i (bs' := (fun (_ : Unit) => [[la ty ot 1 of], [ob bc 8 [.ref tx, .ref (a 0), .ref (b 0), .ref hi, .ref sl]], (stW ty a r x y g), (stW ty b r2 x2 y2 g2)])) () hx hb hr hlocks hP hD hS (by first | rfl | decide | simp []) (Nat.le_of_ble_eq_true rfl) (Nat.le_of_ble_eq_true rfl) dL_dueAfter_14
  · exact absurd h9.2 hc0
set_option maxHeartbeats 4000000 in
set_option maxRecDepth 100000 in
theorem c_L_undo1 (l : Launch) (D : va_G) (ty : Nat → ClassId) (bc tx hi sl : Nat) (b : Nat → Nat) (a : Nat → Nat) (r : Nat → Int32) (x y : Int64) (g : Nat → Nat → Int32) (hs cm : Nat) (ad : Nat → Nat → Nat) (ur : Nat → Nat → Int32) (ux uy : Nat → Int64) (ug : Nat → Nat → Nat → Int32) (ot : Nat) (of : Nat → Int64) (hst : l.stackTraces = false) (hc : cm < 14) : CTi l yL_undo wsL_undo ({ frames := 5, cells := 0, slots := 0, locals := 116 }) D ty [.ref bc, .ref ot] [[la ty ot 1 of], [ob bc 8 [.ref tx, .ref (a 0), .ref (b 0), .ref hi, .ref sl]], [ob hi 2 [.ref hs, .int (nI (cm + 1))]], [sa ty hs 14 (fun k => some (ad k 0))], (stW ty a r x y g), (hsW ty ad ur ux uy ug)] (fun (RET : Int32) (_ : Unit) => RET = 0) (fun (_ : Unit) => [[la ty ot 1 (vp_updL of 0 (Int32.toInt64 (nI cm)))], [ob bc 8 [.ref tx, .ref (a 0), .ref (b 0), .ref hi, .ref sl]], [ob hi 2 [.ref hs, .int (nI cm)]], [sa ty hs 14 (fun k => some (ad k 0))], (stW ty a (ur cm) (ux cm) (uy cm) (ug cm)), (hsW ty ad ur ux uy ug)]) := by
  refine CTi_ofH cL_undo 3 (some .int) [(0, 8, 11, 15)] (by decide) rfl (Nat.le_of_ble_eq_true rfl) ?_
  intro p e s m args below meth c A hx hb hr hml hown hlocks hin hts hA hX hK hP hD ht0 ls hl
  have hown : s.vm.findClass RL = some m.cls := hown
  have hS : va_S A s.heap s.heap [] := va_S.rf
  have hl : lv_has ls 3 [(0, .ref bc), (1, .ref ot)] := hl
  refine lv_aload_n hx hb dL_undo_0 rfl (lv_at hl 1 rfl) ?_
  refine lv_iconst (v := 0) hx hb dL_undo_1 (by decide) ?_
  refine lv_aload_n hx hb dL_undo_2 rfl (lv_at hl 0 rfl) ?_
  refine cVxi (As := []) (rest := [.int 0, .ref ot]) ⟨hx, hb, hml, hown, hts⟩ (c_X9_undo1 l D ty bc tx hi sl b a r x y g hs cm ad ur ux uy ug hst hc) (cwV 0 hts gL_undo_X9_undo rfl rfl rfl (by decide +kernel) ⟨Nat.le_of_ble_eq_true rfl, Nat.le_of_ble_eq_true rfl⟩) hK hX hP hD hS hA (pk (bs := [[la ty ot 1 of], [ob bc 8 [.ref tx, .ref (a 0), .ref (b 0), .ref hi, .ref sl]], [ob hi 2 [.ref hs, .int (nI (cm + 1))]], [sa ty hs 14 (fun k => some (ad k 0))], (stW ty a r x y g), (hsW ty ad ur ux uy ug)]) (bsc := [[ob bc 8 [.ref tx, .ref (a 0), .ref (b 0), .ref hi, .ref sl]], [ob hi 2 [.ref hs, .int (nI (cm + 1))]], [sa ty hs 14 (fun k => some (ad k 0))], (stW ty a r x y g), (hsW ty ad ur ux uy ug)]) (bsr := [[la ty ot 1 of]]) [1, 2, 3, 4, 5] [0] 6 rfl (by decide +kernel) rfl rfl) (ci := 8) rfl 0 rfl rfl hl.1 rfl (Nat.le_of_ble_eq_true rfl) dL_undo_3 ⟨Nat.le_of_ble_eq_true rfl, Nat.le_of_ble_eq_true rfl⟩ (fun E hE ce q9 H locs hP hD hS hce hcv hcl => ?_) (fun r9 u9 h9 H locs hP hD hS => ?_)
  · skip
    exact hE.elim
  · skip
    have hP : va_P D vwCl (fl [[la ty ot 1 of], [ob bc 8 [.ref tx, .ref (a 0), .ref (b 0), .ref hi, .ref sl]], [ob hi 2 [.ref hs, .int (nI cm)]], [sa ty hs 14 (fun k => some (ad k 0))], (stW ty a (ur cm) (ux cm) (uy cm) (ug cm)), (hsW ty ad ur ux uy ug)]) H := P_perm (po (bs := [[ob bc 8 [.ref tx, .ref (a 0), .ref (b 0), .ref hi, .ref sl]], [ob hi 2 [.ref hs, .int (nI cm)]], [sa ty hs 14 (fun k => some (ad k 0))], (stW ty a (ur cm) (ux cm) (uy cm) (ug cm)), (hsW ty ad ur ux uy ug), [la ty ot 1 of]]) [5, 0, 1, 2, 3, 4] 6 rfl (by decide +kernel) rfl) hP
    have hD : va_D A (fl [[la ty ot 1 of], [ob bc 8 [.ref tx, .ref (a 0), .ref (b 0), .ref hi, .ref sl]], [ob hi 2 [.ref hs, .int (nI cm)]], [sa ty hs 14 (fun k => some (ad k 0))], (stW ty a (ur cm) (ux cm) (uy cm) (ug cm)), (hsW ty ad ur ux uy ug)]) := D_perm (po (bs := [[ob bc 8 [.ref tx, .ref (a 0), .ref (b 0), .ref hi, .ref sl]], [ob hi 2 [.ref hs, .int (nI cm)]], [sa ty hs 14 (fun k => some (ad k 0))], (stW ty a (ur cm) (ux cm) (uy cm) (ug cm)), (hsW ty ad ur ux uy ug), [la ty ot 1 of]]) [5, 0, 1, 2, 3, 4] 6 rfl (by decide +kernel) rfl) hD
    have h8 : r9 = (nI cm) := h9.1
    subst h8
    refine lv_i2l (v := (Int32.toInt64 (nI cm))) hx hb dL_undo_6 rfl ?_
    refine k_last hx hb hK hP hD hS 0 rfl 0 rfl (by decide) (Nat.le_of_ble_eq_true rfl) dL_undo_7 (fun H locs hP hD hS => ?_)
    have hP : va_P D vwCl (fl [[la ty ot 1 (vp_updL of 0 (Int32.toInt64 (nI cm)))], [ob bc 8 [.ref tx, .ref (a 0), .ref (b 0), .ref hi, .ref sl]], [ob hi 2 [.ref hs, .int (nI cm)]], [sa ty hs 14 (fun k => some (ad k 0))], (stW ty a (ur cm) (ux cm) (uy cm) (ug cm)), (hsW ty ad ur ux uy ug)]) H := hP
    have hD : va_D A (fl [[la ty ot 1 (vp_updL of 0 (Int32.toInt64 (nI cm)))], [ob bc 8 [.ref tx, .ref (a 0), .ref (b 0), .ref hi, .ref sl]], [ob hi 2 [.ref hs, .int (nI cm)]], [sa ty hs 14 (fun k => some (ad k 0))], (stW ty a (ur cm) (ux cm) (uy cm) (ug cm)), (hsW ty ad ur ux uy ug)]) := hD
    refine lv_goto (tgt := 14) hx hb dL_undo_8 (by decide) ?_
    refine lv_iconst (v := 0) hx hb dL_undo_14 (by decide) ?_
    have hP : va_P D vwCl (fl [[la ty ot 1 (vp_updL of 0 (Int32.toInt64 (nI cm)))], [ob bc 8 [.ref tx, .ref (a 0), .ref (b 0), .ref hi, .ref sl]], [ob hi 2 [.ref hs, .int (nI cm)]], [sa ty hs 14 (fun k => some (ad k 0))], (stW ty a (ur cm) (ux cm) (uy cm) (ug cm)), (hsW ty ad ur ux uy ug)]) H := hP
    have hD : va_D A (fl [[la ty ot 1 (vp_updL of 0 (Int32.toInt64 (nI cm)))], [ob bc 8 [.ref tx, .ref (a 0), .ref (b 0), .ref hi, .ref sl]], [ob hi 2 [.ref hs, .int (nI cm)]], [sa ty hs 14 (fun k => some (ad k 0))], (stW ty a (ur cm) (ux cm) (uy cm) (ug cm)), (hsW ty ad ur ux uy ug)]) := hD
    exact end_i (bs' := (fun (_ : Unit) => [[la ty ot 1 (vp_updL of 0 (Int32.toInt64 (nI cm)))], [ob bc 8 [.ref tx, .ref (a 0), .ref (b 0), .ref hi, .ref sl]], [ob hi 2 [.ref hs, .int (nI cm)]], [sa ty hs 14 (fun k => some (ad k 0))], (stW ty a (ur cm) (ux cm) (uy cm) (ug cm)), (hsW ty ad ur ux uy ug)])) () hx hb hr hlocks hP hD hS (by first | rfl | decide | simp []) (Nat.le_of_ble_eq_true rfl) (Nat.le_of_ble_eq_true rfl) dL_undo_15
set_option maxHeartbeats 4000000 in
set_option maxRecDepth 100000 in
theorem c_L_undo0_n0 (l : Launch) (D : va_G) (ty : Nat → ClassId) (bc tx hi sl : Nat) (b : Nat → Nat) (a : Nat → Nat) (hs : Nat) (ot : Nat) (of : Nat → Int64) (hst : l.stackTraces = false) : CTi l yL_undo wsL_undo ({ frames := 7, cells := 1, slots := 6, locals := 102 }) D ty [.ref bc, .ref ot] [[la ty ot 1 of], [ob bc 8 [.ref tx, .ref (a 0), .ref (b 0), .ref hi, .ref sl]], [ob hi 2 [.ref hs, .int 0]]] (fun (RET : Int32) (_ : Unit) => RET = 1) (fun (_ : Unit) => [[la ty ot 1 of], [ob bc 8 [.ref tx, .ref (a 0), .ref (b 0), .ref hi, .ref sl]], [ob hi 2 [.ref hs, .int 0]]]) := by
  refine CTi_ofH cL_undo 3 (some .int) [(0, 8, 11, 15)] (by decide) rfl (Nat.le_of_ble_eq_true rfl) ?_
  intro p e s m args below meth c A hx hb hr hml hown hlocks hin hts hA hX hK hP hD ht0 ls hl
  have hown : s.vm.findClass RL = some m.cls := hown
  have hS : va_S A s.heap s.heap [] := va_S.rf
  have hl : lv_has ls 3 [(0, .ref bc), (1, .ref ot)] := hl
  refine lv_aload_n hx hb dL_undo_0 rfl (lv_at hl 1 rfl) ?_
  refine lv_iconst (v := 0) hx hb dL_undo_1 (by decide) ?_
  refine lv_aload_n hx hb dL_undo_2 rfl (lv_at hl 0 rfl) ?_
  refine cVxi (As := []) (rest := [.int 0, .ref ot]) ⟨hx, hb, hml, hown, hts⟩ (c_X9_undo0 l D ty bc tx hi sl b a hs hst) (cwV 0 hts gL_undo_X9_undo rfl rfl rfl (by decide +kernel) ⟨Nat.le_of_ble_eq_true rfl, Nat.le_of_ble_eq_true rfl⟩) hK hX hP hD hS hA (pk (bs := [[la ty ot 1 of], [ob bc 8 [.ref tx, .ref (a 0), .ref (b 0), .ref hi, .ref sl]], [ob hi 2 [.ref hs, .int 0]]]) (bsc := [[ob bc 8 [.ref tx, .ref (a 0), .ref (b 0), .ref hi, .ref sl]], [ob hi 2 [.ref hs, .int 0]]]) (bsr := [[la ty ot 1 of]]) [1, 2] [0] 3 rfl (by decide +kernel) rfl rfl) (ci := 8) rfl 0 rfl rfl hl.1 rfl (Nat.le_of_ble_eq_true rfl) dL_undo_3 ⟨Nat.le_of_ble_eq_true rfl, Nat.le_of_ble_eq_true rfl⟩ (fun E hE ce q9 H locs hP hD hS hce hcv hcl => ?_) (fun r9 u9 h9 H locs hP hD hS => ?_)
  · skip
    have hEE : E = EIS := hE
    subst hEE
    have hP : va_P D vwCl (fl [[la ty ot 1 of], [ob bc 8 [.ref tx, .ref (a 0), .ref (b 0), .ref hi, .ref sl]], [ob hi 2 [.ref hs, .int 0]]]) H := P_perm (po (bs := [[ob bc 8 [.ref tx, .ref (a 0), .ref (b 0), .ref hi, .ref sl]], [ob hi 2 [.ref hs, .int 0]], [la ty ot 1 of]]) [2, 0, 1] 3 rfl (by decide +kernel) rfl) hP
    have hD : va_D A (fl [[la ty ot 1 of], [ob bc 8 [.ref tx, .ref (a 0), .ref (b 0), .ref hi, .ref sl]], [ob hi 2 [.ref hs, .int 0]]]) := D_perm (po (bs := [[ob bc 8 [.ref tx, .ref (a 0), .ref (b 0), .ref hi, .ref sl]], [ob hi 2 [.ref hs, .int 0]], [la ty ot 1 of]]) [2, 0, 1] 3 rfl (by decide +kernel) rfl) hD
    refine vx_catch (own := RL) (name := EIS) (E := EIS) hown [] ⟨0, 8, 11, 15⟩ [] (ht0.trans rfl) (fun z hz => by cases hz) (by decide) (by decide) (hts (Cond.classLink RL 15 "java/lang/IllegalStateException") (List.mem_of_getElem? (i := 1) rfl)) (va_Nw.use rfl hX.1.2.2.1.2.1) hce hcv hcl ?_
    refine lv_astore_n (lv' := [(2, .ref q9), (0, .ref bc), (1, .ref ot)]) hx hb dL_undo_11 rfl hl (by decide) rfl (fun ls hl => ?_)
    refine lv_iconst (v := 1) hx hb dL_undo_12 (by decide) ?_
    have hP : va_P D vwCl (fl [[la ty ot 1 of], [ob bc 8 [.ref tx, .ref (a 0), .ref (b 0), .ref hi, .ref sl]], [ob hi 2 [.ref hs, .int 0]]]) H := hP
    have hD : va_D A (fl [[la ty ot 1 of], [ob bc 8 [.ref tx, .ref (a 0), .ref (b 0), .ref hi, .ref sl]], [ob hi 2 [.ref hs, .int 0]]]) := hD
    exact end_i (bs' := (fun (_ : Unit) => [[la ty ot 1 of], [ob bc 8 [.ref tx, .ref (a 0), .ref (b 0), .ref hi, .ref sl]], [ob hi 2 [.ref hs, .int 0]]])) () hx hb hr hlocks hP hD hS (by first | rfl | decide | simp []) (Nat.le_of_ble_eq_true rfl) (Nat.le_of_ble_eq_true rfl) dL_undo_13
  · exact h9.2.elim
set_option maxHeartbeats 4000000 in
set_option maxRecDepth 100000 in
theorem c_L_runScript1 (l : Launch) (D : va_G) (ty : Nat → ClassId) (wn : Nat) (bc tx hi sl : Nat) (b : Nat → Nat) (a : Nat → Nat) (r : Nat → Int32) (x y : Int64) (g : Nat → Nat → Int32) (r2 : Nat → Int32) (x2 y2 : Int64) (g2 : Nat → Nat → Int32) (ot : Nat) (of : Nat → Int64) (hst : l.stackTraces = false) (hwn : wn < 2 ^ 63) (hp : Pw r) (hc0 : wn < 100000) : CTi l yL_runScript wsL_runScript ({ frames := 8, cells := 2, slots := 12, locals := 176 }) D ty [.ref bc, .int 1, .long (lN wn), .ref ot] [[la ty ot 1 of], [ob bc 8 [.ref tx, .ref (a 0), .ref (b 0), .ref hi, .ref sl]], (stW ty a r x y g), (stW ty b r2 x2 y2 g2)] (fun (RET : Int32) (_ : Unit) => RET = 0) (fun (_ : Unit) => [[la ty ot 1 (vp_updL of 0 (Int32.toInt64 (scV 0 [wn % 100000] r)))], [ob bc 8 [.ref tx, .ref (a 0), .ref (b 0), .ref hi, .ref sl]], (stW ty a r x y g), (stW ty b (scR [wn % 100000] r) (scX [wn % 100000] r x) (scY [wn % 100000] r y) (scG [wn % 100000] r g))]) := by
  refine CTi_ofH cL_runScript 6 (some .int) [(0, 11, 14, 13)] (by decide) rfl (Nat.le_of_ble_eq_true rfl) ?_
  intro p e s m args below meth c A hx hb hr hml hown hlocks hin hts hA hX hK hP hD ht0 ls hl
  have hown : s.vm.findClass RL = some m.cls := hown
  have hS : va_S A s.heap s.heap [] := va_S.rf
  have hl : lv_has ls 6 [(0, .ref bc), (1, .int 1), (2, .long (lN wn)), (4, .ref ot)] := hl
  refine lv_aload hx hb dL_runScript_0 (lv_at hl 3 rfl) ?_
  refine lv_iconst (v := 0) hx hb dL_runScript_2 (by decide) ?_
  refine lv_aload_n hx hb dL_runScript_3 rfl (lv_at hl 0 rfl) ?_
  refine lv_iload_n hx hb dL_runScript_4 rfl (lv_at hl 1 rfl) ?_
  refine lv_lload_n hx hb dL_runScript_5 rfl (lv_at hl 2 rfl) ?_
  refine cVxi (As := [.int 1, .long (lN wn)]) (rest := [.int 0, .ref ot]) ⟨hx, hb, hml, hown, hts⟩ (c_X9_runScript1 l D ty wn bc tx hi sl b a r x y g r2 x2 y2 g2 hst hwn hp) (cwV 2 hts gL_runScript_X9_runScript rfl rfl rfl (by decide +kernel) ⟨Nat.le_of_ble_eq_true rfl, Nat.le_of_ble_eq_true rfl⟩) hK hX hP hD hS hA (pk (bs := [[la ty ot 1 of], [ob bc 8 [.ref tx, .ref (a 0), .ref (b 0), .ref hi, .ref sl]], (stW ty a r x y g), (stW ty b r2 x2 y2 g2)]) (bsc := [[ob bc 8 [.ref tx, .ref (a 0), .ref (b 0), .ref hi, .ref sl]], (stW ty a r x y g), (stW ty b r2 x2 y2 g2)]) (bsr := [[la ty ot 1 of]]) [1, 2, 3] [0] 4 rfl (by decide +kernel) rfl rfl) (ci := 8) rfl 0 rfl rfl hl.1 rfl (Nat.le_of_ble_eq_true rfl) dL_runScript_6 ⟨Nat.le_of_ble_eq_true rfl, Nat.le_of_ble_eq_true rfl⟩ (fun E hE ce q9 H locs hP hD hS hce hcv hcl => ?_) (fun r9 u9 h9 H locs hP hD hS => ?_)
  · skip
    obtain ⟨hEE, h0⟩ := hE
    exact absurd hc0 h0
  · skip
    have hP : va_P D vwCl (fl [[la ty ot 1 of], [ob bc 8 [.ref tx, .ref (a 0), .ref (b 0), .ref hi, .ref sl]], (stW ty a r x y g), (stW ty b (scR [wn % 100000] r) (scX [wn % 100000] r x) (scY [wn % 100000] r y) (scG [wn % 100000] r g))]) H := P_perm (po (bs := [[ob bc 8 [.ref tx, .ref (a 0), .ref (b 0), .ref hi, .ref sl]], (stW ty a r x y g), (stW ty b (scR [wn % 100000] r) (scX [wn % 100000] r x) (scY [wn % 100000] r y) (scG [wn % 100000] r g)), [la ty ot 1 of]]) [3, 0, 1, 2] 4 rfl (by decide +kernel) rfl) hP
    have hD : va_D A (fl [[la ty ot 1 of], [ob bc 8 [.ref tx, .ref (a 0), .ref (b 0), .ref hi, .ref sl]], (stW ty a r x y g), (stW ty b (scR [wn % 100000] r) (scX [wn % 100000] r x) (scY [wn % 100000] r y) (scG [wn % 100000] r g))]) := D_perm (po (bs := [[ob bc 8 [.ref tx, .ref (a 0), .ref (b 0), .ref hi, .ref sl]], (stW ty a r x y g), (stW ty b (scR [wn % 100000] r) (scX [wn % 100000] r x) (scY [wn % 100000] r y) (scG [wn % 100000] r g)), [la ty ot 1 of]]) [3, 0, 1, 2] 4 rfl (by decide +kernel) rfl) hD
    have h8 : r9 = (scV 0 [wn % 100000] r) := h9.1
    subst h8
    refine lv_i2l (v := (Int32.toInt64 (scV 0 [wn % 100000] r))) hx hb dL_runScript_9 rfl ?_
    refine k_last hx hb hK hP hD hS 0 rfl 0 rfl (by decide) (Nat.le_of_ble_eq_true rfl) dL_runScript_10 (fun H locs hP hD hS => ?_)
    have hP : va_P D vwCl (fl [[la ty ot 1 (vp_updL of 0 (Int32.toInt64 (scV 0 [wn % 100000] r)))], [ob bc 8 [.ref tx, .ref (a 0), .ref (b 0), .ref hi, .ref sl]], (stW ty a r x y g), (stW ty b (scR [wn % 100000] r) (scX [wn % 100000] r x) (scY [wn % 100000] r y) (scG [wn % 100000] r g))]) H := hP
    have hD : va_D A (fl [[la ty ot 1 (vp_updL of 0 (Int32.toInt64 (scV 0 [wn % 100000] r)))], [ob bc 8 [.ref tx, .ref (a 0), .ref (b 0), .ref hi, .ref sl]], (stW ty a r x y g), (stW ty b (scR [wn % 100000] r) (scX [wn % 100000] r x) (scY [wn % 100000] r y) (scG [wn % 100000] r g))]) := hD
    refine lv_goto (tgt := 18) hx hb dL_runScript_11 (by decide) ?_
    refine lv_iconst (v := 0) hx hb dL_runScript_18 (by decide) ?_
    have hP : va_P D vwCl (fl [[la ty ot 1 (vp_updL of 0 (Int32.toInt64 (scV 0 [wn % 100000] r)))], [ob bc 8 [.ref tx, .ref (a 0), .ref (b 0), .ref hi, .ref sl]], (stW ty a r x y g), (stW ty b (scR [wn % 100000] r) (scX [wn % 100000] r x) (scY [wn % 100000] r y) (scG [wn % 100000] r g))]) H := hP
    have hD : va_D A (fl [[la ty ot 1 (vp_updL of 0 (Int32.toInt64 (scV 0 [wn % 100000] r)))], [ob bc 8 [.ref tx, .ref (a 0), .ref (b 0), .ref hi, .ref sl]], (stW ty a r x y g), (stW ty b (scR [wn % 100000] r) (scX [wn % 100000] r x) (scY [wn % 100000] r y) (scG [wn % 100000] r g))]) := hD
    exact end_i (bs' := (fun (_ : Unit) => [[la ty ot 1 (vp_updL of 0 (Int32.toInt64 (scV 0 [wn % 100000] r)))], [ob bc 8 [.ref tx, .ref (a 0), .ref (b 0), .ref hi, .ref sl]], (stW ty a r x y g), (stW ty b (scR [wn % 100000] r) (scX [wn % 100000] r x) (scY [wn % 100000] r y) (scG [wn % 100000] r g))])) () hx hb hr hlocks hP hD hS (by first | rfl | decide | simp []) (Nat.le_of_ble_eq_true rfl) (Nat.le_of_ble_eq_true rfl) dL_runScript_19
set_option maxHeartbeats 4000000 in
set_option maxRecDepth 100000 in
theorem c_L_runScript1_n0 (l : Launch) (D : va_G) (ty : Nat → ClassId) (wn : Nat) (bc tx hi sl : Nat) (b : Nat → Nat) (a : Nat → Nat) (r : Nat → Int32) (x y : Int64) (g : Nat → Nat → Int32) (r2 : Nat → Int32) (x2 y2 : Int64) (g2 : Nat → Nat → Int32) (ot : Nat) (of : Nat → Int64) (hst : l.stackTraces = false) (hwn : wn < 2 ^ 63) (hp : Pw r) (hc0 : ¬ (wn < 100000)) : CTi l yL_runScript wsL_runScript ({ frames := 8, cells := 2, slots := 12, locals := 176 }) D ty [.ref bc, .int 1, .long (lN wn), .ref ot] [[la ty ot 1 of], [ob bc 8 [.ref tx, .ref (a 0), .ref (b 0), .ref hi, .ref sl]], (stW ty a r x y g), (stW ty b r2 x2 y2 g2)] (fun (RET : Int32) (_ : Unit) => RET = 1) (fun (_ : Unit) => [[la ty ot 1 of], [ob bc 8 [.ref tx, .ref (a 0), .ref (b 0), .ref hi, .ref sl]], (stW ty a r x y g), (stW ty b r2 x2 y2 g2)]) := by
  refine CTi_ofH cL_runScript 6 (some .int) [(0, 11, 14, 13)] (by decide) rfl (Nat.le_of_ble_eq_true rfl) ?_
  intro p e s m args below meth c A hx hb hr hml hown hlocks hin hts hA hX hK hP hD ht0 ls hl
  have hown : s.vm.findClass RL = some m.cls := hown
  have hS : va_S A s.heap s.heap [] := va_S.rf
  have hl : lv_has ls 6 [(0, .ref bc), (1, .int 1), (2, .long (lN wn)), (4, .ref ot)] := hl
  refine lv_aload hx hb dL_runScript_0 (lv_at hl 3 rfl) ?_
  refine lv_iconst (v := 0) hx hb dL_runScript_2 (by decide) ?_
  refine lv_aload_n hx hb dL_runScript_3 rfl (lv_at hl 0 rfl) ?_
  refine lv_iload_n hx hb dL_runScript_4 rfl (lv_at hl 1 rfl) ?_
  refine lv_lload_n hx hb dL_runScript_5 rfl (lv_at hl 2 rfl) ?_
  refine cVxi (As := [.int 1, .long (lN wn)]) (rest := [.int 0, .ref ot]) ⟨hx, hb, hml, hown, hts⟩ (c_X9_runScript1 l D ty wn bc tx hi sl b a r x y g r2 x2 y2 g2 hst hwn hp) (cwV 2 hts gL_runScript_X9_runScript rfl rfl rfl (by decide +kernel) ⟨Nat.le_of_ble_eq_true rfl, Nat.le_of_ble_eq_true rfl⟩) hK hX hP hD hS hA (pk (bs := [[la ty ot 1 of], [ob bc 8 [.ref tx, .ref (a 0), .ref (b 0), .ref hi, .ref sl]], (stW ty a r x y g), (stW ty b r2 x2 y2 g2)]) (bsc := [[ob bc 8 [.ref tx, .ref (a 0), .ref (b 0), .ref hi, .ref sl]], (stW ty a r x y g), (stW ty b r2 x2 y2 g2)]) (bsr := [[la ty ot 1 of]]) [1, 2, 3] [0] 4 rfl (by decide +kernel) rfl rfl) (ci := 8) rfl 0 rfl rfl hl.1 rfl (Nat.le_of_ble_eq_true rfl) dL_runScript_6 ⟨Nat.le_of_ble_eq_true rfl, Nat.le_of_ble_eq_true rfl⟩ (fun E hE ce q9 H locs hP hD hS hce hcv hcl => ?_) (fun r9 u9 h9 H locs hP hD hS => ?_)
  · skip
    obtain ⟨hEE, h0⟩ := hE
    subst hEE
    have hP : va_P D vwCl (fl [[la ty ot 1 of], [ob bc 8 [.ref tx, .ref (a 0), .ref (b 0), .ref hi, .ref sl]], (stW ty a r x y g), (stW ty b r2 x2 y2 g2)]) H := P_perm (po (bs := [[ob bc 8 [.ref tx, .ref (a 0), .ref (b 0), .ref hi, .ref sl]], (stW ty a r x y g), (stW ty b r2 x2 y2 g2), [la ty ot 1 of]]) [3, 0, 1, 2] 4 rfl (by decide +kernel) rfl) hP
    have hD : va_D A (fl [[la ty ot 1 of], [ob bc 8 [.ref tx, .ref (a 0), .ref (b 0), .ref hi, .ref sl]], (stW ty a r x y g), (stW ty b r2 x2 y2 g2)]) := D_perm (po (bs := [[ob bc 8 [.ref tx, .ref (a 0), .ref (b 0), .ref hi, .ref sl]], (stW ty a r x y g), (stW ty b r2 x2 y2 g2), [la ty ot 1 of]]) [3, 0, 1, 2] 4 rfl (by decide +kernel) rfl) hD
    refine vx_catch (own := RL) (name := EIA) (E := EIA) hown [] ⟨0, 11, 14, 13⟩ [] (ht0.trans rfl) (fun z hz => by cases hz) (by decide) (by decide) (hts (Cond.classLink RL 13 "java/lang/IllegalArgumentException") (List.mem_of_getElem? (i := 1) rfl)) (va_Nw.use rfl hX.1.2.2.1.1) hce hcv hcl ?_
    refine lv_astore (lv' := [(5, .ref q9), (0, .ref bc), (1, .int 1), (2, .long (lN wn)), (4, .ref ot)]) hx hb dL_runScript_14 hl (by decide) rfl (fun ls hl => ?_)
    refine lv_iconst (v := 1) hx hb dL_runScript_16 (by decide) ?_
    have hP : va_P D vwCl (fl [[la ty ot 1 of], [ob bc 8 [.ref tx, .ref (a 0), .ref (b 0), .ref hi, .ref sl]], (stW ty a r x y g), (stW ty b r2 x2 y2 g2)]) H := hP
    have hD : va_D A (fl [[la ty ot 1 of], [ob bc 8 [.ref tx, .ref (a 0), .ref (b 0), .ref hi, .ref sl]], (stW ty a r x y g), (stW ty b r2 x2 y2 g2)]) := hD
    exact end_i (bs' := (fun (_ : Unit) => [[la ty ot 1 of], [ob bc 8 [.ref tx, .ref (a 0), .ref (b 0), .ref hi, .ref sl]], (stW ty a r x y g), (stW ty b r2 x2 y2 g2)])) () hx hb hr hlocks hP hD hS (by first | rfl | decide | simp []) (Nat.le_of_ble_eq_true rfl) (Nat.le_of_ble_eq_true rfl) dL_runScript_17
  · exact absurd h9.2 hc0
set_option maxHeartbeats 4000000 in
set_option maxRecDepth 100000 in
theorem c_L_runScript2 (l : Launch) (D : va_G) (ty : Nat → ClassId) (wn : Nat) (bc tx hi sl : Nat) (b : Nat → Nat) (a : Nat → Nat) (r : Nat → Int32) (x y : Int64) (g : Nat → Nat → Int32) (r2 : Nat → Int32) (x2 y2 : Int64) (g2 : Nat → Nat → Int32) (ot : Nat) (of : Nat → Int64) (hst : l.stackTraces = false) (hwn : wn < 2 ^ 63) (hp : Pw r) (hc0 : wn < 10000000000) : CTi l yL_runScript wsL_runScript ({ frames := 8, cells := 2, slots := 12, locals := 176 }) D ty [.ref bc, .int 2, .long (lN wn), .ref ot] [[la ty ot 1 of], [ob bc 8 [.ref tx, .ref (a 0), .ref (b 0), .ref hi, .ref sl]], (stW ty a r x y g), (stW ty b r2 x2 y2 g2)] (fun (RET : Int32) (_ : Unit) => RET = 0) (fun (_ : Unit) => [[la ty ot 1 (vp_updL of 0 (Int32.toInt64 (scV 0 [wn / 100000 % 100000, wn % 100000] r)))], [ob bc 8 [.ref tx, .ref (a 0), .ref (b 0), .ref hi, .ref sl]], (stW ty a r x y g), (stW ty b (scR [wn / 100000 % 100000, wn % 100000] r) (scX [wn / 100000 % 100000, wn % 100000] r x) (scY [wn / 100000 % 100000, wn % 100000] r y) (scG [wn / 100000 % 100000, wn % 100000] r g))]) := by
  refine CTi_ofH cL_runScript 6 (some .int) [(0, 11, 14, 13)] (by decide) rfl (Nat.le_of_ble_eq_true rfl) ?_
  intro p e s m args below meth c A hx hb hr hml hown hlocks hin hts hA hX hK hP hD ht0 ls hl
  have hown : s.vm.findClass RL = some m.cls := hown
  have hS : va_S A s.heap s.heap [] := va_S.rf
  have hl : lv_has ls 6 [(0, .ref bc), (1, .int 2), (2, .long (lN wn)), (4, .ref ot)] := hl
  refine lv_aload hx hb dL_runScript_0 (lv_at hl 3 rfl) ?_
  refine lv_iconst (v := 0) hx hb dL_runScript_2 (by decide) ?_
  refine lv_aload_n hx hb dL_runScript_3 rfl (lv_at hl 0 rfl) ?_
  refine lv_iload_n hx hb dL_runScript_4 rfl (lv_at hl 1 rfl) ?_
  refine lv_lload_n hx hb dL_runScript_5 rfl (lv_at hl 2 rfl) ?_
  refine cVxi (As := [.int 2, .long (lN wn)]) (rest := [.int 0, .ref ot]) ⟨hx, hb, hml, hown, hts⟩ (c_X9_runScript2 l D ty wn bc tx hi sl b a r x y g r2 x2 y2 g2 hst hwn hp) (cwV 2 hts gL_runScript_X9_runScript rfl rfl rfl (by decide +kernel) ⟨Nat.le_of_ble_eq_true rfl, Nat.le_of_ble_eq_true rfl⟩) hK hX hP hD hS hA (pk (bs := [[la ty ot 1 of], [ob bc 8 [.ref tx, .ref (a 0), .ref (b 0), .ref hi, .ref sl]], (stW ty a r x y g), (stW ty b r2 x2 y2 g2)]) (bsc := [[ob bc 8 [.ref tx, .ref (a 0), .ref (b 0), .ref hi, .ref sl]], (stW ty a r x y g), (stW ty b r2 x2 y2 g2)]) (bsr := [[la ty ot 1 of]]) [1, 2, 3] [0] 4 rfl (by decide +kernel) rfl rfl) (ci := 8) rfl 0 rfl rfl hl.1 rfl (Nat.le_of_ble_eq_true rfl) dL_runScript_6 ⟨Nat.le_of_ble_eq_true rfl, Nat.le_of_ble_eq_true rfl⟩ (fun E hE ce q9 H locs hP hD hS hce hcv hcl => ?_) (fun r9 u9 h9 H locs hP hD hS => ?_)
  · skip
    obtain ⟨hEE, h0⟩ := hE
    exact absurd hc0 h0
  · skip
    have hP : va_P D vwCl (fl [[la ty ot 1 of], [ob bc 8 [.ref tx, .ref (a 0), .ref (b 0), .ref hi, .ref sl]], (stW ty a r x y g), (stW ty b (scR [wn / 100000 % 100000, wn % 100000] r) (scX [wn / 100000 % 100000, wn % 100000] r x) (scY [wn / 100000 % 100000, wn % 100000] r y) (scG [wn / 100000 % 100000, wn % 100000] r g))]) H := P_perm (po (bs := [[ob bc 8 [.ref tx, .ref (a 0), .ref (b 0), .ref hi, .ref sl]], (stW ty a r x y g), (stW ty b (scR [wn / 100000 % 100000, wn % 100000] r) (scX [wn / 100000 % 100000, wn % 100000] r x) (scY [wn / 100000 % 100000, wn % 100000] r y) (scG [wn / 100000 % 100000, wn % 100000] r g)), [la ty ot 1 of]]) [3, 0, 1, 2] 4 rfl (by decide +kernel) rfl) hP
    have hD : va_D A (fl [[la ty ot 1 of], [ob bc 8 [.ref tx, .ref (a 0), .ref (b 0), .ref hi, .ref sl]], (stW ty a r x y g), (stW ty b (scR [wn / 100000 % 100000, wn % 100000] r) (scX [wn / 100000 % 100000, wn % 100000] r x) (scY [wn / 100000 % 100000, wn % 100000] r y) (scG [wn / 100000 % 100000, wn % 100000] r g))]) := D_perm (po (bs := [[ob bc 8 [.ref tx, .ref (a 0), .ref (b 0), .ref hi, .ref sl]], (stW ty a r x y g), (stW ty b (scR [wn / 100000 % 100000, wn % 100000] r) (scX [wn / 100000 % 100000, wn % 100000] r x) (scY [wn / 100000 % 100000, wn % 100000] r y) (scG [wn / 100000 % 100000, wn % 100000] r g)), [la ty ot 1 of]]) [3, 0, 1, 2] 4 rfl (by decide +kernel) rfl) hD
    have h8 : r9 = (scV 0 [wn / 100000 % 100000, wn % 100000] r) := h9.1
    subst h8
    refine lv_i2l (v := (Int32.toInt64 (scV 0 [wn / 100000 % 100000, wn % 100000] r))) hx hb dL_runScript_9 rfl ?_
    refine k_last hx hb hK hP hD hS 0 rfl 0 rfl (by decide) (Nat.le_of_ble_eq_true rfl) dL_runScript_10 (fun H locs hP hD hS => ?_)
    have hP : va_P D vwCl (fl [[la ty ot 1 (vp_updL of 0 (Int32.toInt64 (scV 0 [wn / 100000 % 100000, wn % 100000] r)))], [ob bc 8 [.ref tx, .ref (a 0), .ref (b 0), .ref hi, .ref sl]], (stW ty a r x y g), (stW ty b (scR [wn / 100000 % 100000, wn % 100000] r) (scX [wn / 100000 % 100000, wn % 100000] r x) (scY [wn / 100000 % 100000, wn % 100000] r y) (scG [wn / 100000 % 100000, wn % 100000] r g))]) H := hP
    have hD : va_D A (fl [[la ty ot 1 (vp_updL of 0 (Int32.toInt64 (scV 0 [wn / 100000 % 100000, wn % 100000] r)))], [ob bc 8 [.ref tx, .ref (a 0), .ref (b 0), .ref hi, .ref sl]], (stW ty a r x y g), (stW ty b (scR [wn / 100000 % 100000, wn % 100000] r) (scX [wn / 100000 % 100000, wn % 100000] r x) (scY [wn / 100000 % 100000, wn % 100000] r y) (scG [wn / 100000 % 100000, wn % 100000] r g))]) := hD
    refine lv_goto (tgt := 18) hx hb dL_runScript_11 (by decide) ?_
    refine lv_iconst (v := 0) hx hb dL_runScript_18 (by decide) ?_
    have hP : va_P D vwCl (fl [[la ty ot 1 (vp_updL of 0 (Int32.toInt64 (scV 0 [wn / 100000 % 100000, wn % 100000] r)))], [ob bc 8 [.ref tx, .ref (a 0), .ref (b 0), .ref hi, .ref sl]], (stW ty a r x y g), (stW ty b (scR [wn / 100000 % 100000, wn % 100000] r) (scX [wn / 100000 % 100000, wn % 100000] r x) (scY [wn / 100000 % 100000, wn % 100000] r y) (scG [wn / 100000 % 100000, wn % 100000] r g))]) H := hP
    have hD : va_D A (fl [[la ty ot 1 (vp_updL of 0 (Int32.toInt64 (scV 0 [wn / 100000 % 100000, wn % 100000] r)))], [ob bc 8 [.ref tx, .ref (a 0), .ref (b 0), .ref hi, .ref sl]], (stW ty a r x y g), (stW ty b (scR [wn / 100000 % 100000, wn % 100000] r) (scX [wn / 100000 % 100000, wn % 100000] r x) (scY [wn / 100000 % 100000, wn % 100000] r y) (scG [wn / 100000 % 100000, wn % 100000] r g))]) := hD
    exact end_i (bs' := (fun (_ : Unit) => [[la ty ot 1 (vp_updL of 0 (Int32.toInt64 (scV 0 [wn / 100000 % 100000, wn % 100000] r)))], [ob bc 8 [.ref tx, .ref (a 0), .ref (b 0), .ref hi, .ref sl]], (stW ty a r x y g), (stW ty b (scR [wn / 100000 % 100000, wn % 100000] r) (scX [wn / 100000 % 100000, wn % 100000] r x) (scY [wn / 100000 % 100000, wn % 100000] r y) (scG [wn / 100000 % 100000, wn % 100000] r g))])) () hx hb hr hlocks hP hD hS (by first | rfl | decide | simp []) (Nat.le_of_ble_eq_true rfl) (Nat.le_of_ble_eq_true rfl) dL_runScript_19
