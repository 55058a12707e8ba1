set_option maxHeartbeats 4000000 in
set_option maxRecDepth 100000 in
theorem c_L_register_n0 (l : Launch) (D : va_G) (ty : Nat → ClassId) (i9 : Int32) (bc tx hi sl : Nat) (b : Nat → Nat) (a : Nat → Nat) (r : Nat → Int32) (x y : Int64) (g : Nat → Nat → Int32) (ot : Nat) (of : Nat → Int64) (hst : l.stackTraces = false) (hc0 : ¬ (inI i9 8)) : CTi l yL_register wsL_register ({ frames := 8, cells := 1, slots := 6, locals := 124 }) D ty [.ref bc, .int i9, .ref ot] [[la ty ot 1 of], [ob bc 8 [.ref tx, .ref (a 0), .ref (b 0), .ref hi, .ref sl]], (stW ty a r x y g)] (fun (RET : Int32) (_ : Unit) => RET = 1) (fun (_ : Unit) => [[la ty ot 1 of], [ob bc 8 [.ref tx, .ref (a 0), .ref (b 0), .ref hi, .ref sl]], (stW ty a r x y g)]) := by
  refine CTi_ofH cL_register 4 (some .int) [(0, 9, 12, 31)] (by decide) rfl (Nat.le_of_ble_eq_true rfl) ?_
  intro p e s m args below meth c A hx hb hr hml hown hlocks hin hts hA hX hK hP hD ht0 ls hl
  have hown : s.vm.findClass RL = some m.cls := hown
  have hS : va_S A s.heap s.heap [] := va_S.rf
  have hl : lv_has ls 4 [(0, .ref bc), (1, .int i9), (2, .ref ot)] := hl
  refine lv_aload_n hx hb dL_register_0 rfl (lv_at hl 2 rfl) ?_
  refine lv_iconst (v := 0) hx hb dL_register_1 (by decide) ?_
  refine lv_aload_n hx hb dL_register_2 rfl (lv_at hl 0 rfl) ?_
  refine lv_iload_n hx hb dL_register_3 rfl (lv_at hl 1 rfl) ?_
  refine cVxi (As := [.int i9]) (rest := [.int 0, .ref ot]) ⟨hx, hb, hml, hown, hts⟩ (c_X9_register l D ty i9 bc tx hi sl b a r x y g hst) (cwV 1 hts gL_register_X9_register rfl rfl rfl (by decide +kernel) ⟨Nat.le_of_ble_eq_true rfl, Nat.le_of_ble_eq_true rfl⟩) hK hX hP hD hS hA (pk (bs := [[la ty ot 1 of], [ob bc 8 [.ref tx, .ref (a 0), .ref (b 0), .ref hi, .ref sl]], (stW ty a r x y g)]) (bsc := [[ob bc 8 [.ref tx, .ref (a 0), .ref (b 0), .ref hi, .ref sl]], (stW ty a r x y g)]) (bsr := [[la ty ot 1 of]]) [1, 2] [0] 3 rfl (by decide +kernel) rfl rfl) (ci := 8) rfl 0 rfl rfl hl.1 rfl (Nat.le_of_ble_eq_true rfl) dL_register_4 ⟨Nat.le_of_ble_eq_true rfl, Nat.le_of_ble_eq_true rfl⟩ (fun E hE ce q9 H locs hP hD hS hce hcv hcl => ?_) (fun r9 u9 h9 H locs hP hD hS => ?_)
  · skip
    obtain ⟨hEE, h0⟩ := hE
    subst hEE
    have hP : va_P D vwCl (fl [[la ty ot 1 of], [ob bc 8 [.ref tx, .ref (a 0), .ref (b 0), .ref hi, .ref sl]], (stW ty a r x y g)]) H := P_perm (po (bs := [[ob bc 8 [.ref tx, .ref (a 0), .ref (b 0), .ref hi, .ref sl]], (stW ty a r x y g), [la ty ot 1 of]]) [2, 0, 1] 3 rfl (by decide +kernel) rfl) hP
    have hD : va_D A (fl [[la ty ot 1 of], [ob bc 8 [.ref tx, .ref (a 0), .ref (b 0), .ref hi, .ref sl]], (stW ty a r x y g)]) := D_perm (po (bs := [[ob bc 8 [.ref tx, .ref (a 0), .ref (b 0), .ref hi, .ref sl]], (stW ty a r x y g), [la ty ot 1 of]]) [2, 0, 1] 3 rfl (by decide +kernel) rfl) hD
    refine vx_catch (own := RL) (name := EIO) (E := EIO) hown [] ⟨0, 9, 12, 31⟩ [] (ht0.trans rfl) (fun z hz => by cases hz) (by decide) (by decide) (hts (Cond.classLink RL 31 "java/lang/IndexOutOfBoundsException") (List.mem_of_getElem? (i := 1) rfl)) (va_Nw.use rfl hX.1.2.2.1.2.2) hce hcv hcl ?_
    refine lv_astore_n (lv' := [(3, .ref q9), (0, .ref bc), (1, .int i9), (2, .ref ot)]) hx hb dL_register_12 rfl hl (by decide) rfl (fun ls hl => ?_)
    refine lv_iconst (v := 1) hx hb dL_register_13 (by decide) ?_
    have hP : va_P D vwCl (fl [[la ty ot 1 of], [ob bc 8 [.ref tx, .ref (a 0), .ref (b 0), .ref hi, .ref sl]], (stW ty a r x y g)]) H := hP
    have hD : va_D A (fl [[la ty ot 1 of], [ob bc 8 [.ref tx, .ref (a 0), .ref (b 0), .ref hi, .ref sl]], (stW ty a r x y g)]) := hD
    exact end_i (bs' := (fun (_ : Unit) => [[la ty ot 1 of], [ob bc 8 [.ref tx, .ref (a 0), .ref (b 0), .ref hi, .ref sl]], (stW ty a r x y g)])) () hx hb hr hlocks hP hD hS (by first | rfl | decide | simp []) (Nat.le_of_ble_eq_true rfl) (Nat.le_of_ble_eq_true rfl) dL_register_14
  · exact absurd h9.2 hc0
set_option maxHeartbeats 4000000 in
set_option maxRecDepth 100000 in
theorem c_L_isGuarded (l : Launch) (D : va_G) (ty : Nat → ClassId) (i9 : Int32) (bc tx hi sl : Nat) (b : Nat → Nat) (a : Nat → Nat) (r : Nat → Int32) (x y : Int64) (g : Nat → Nat → Int32) (ot : Nat) (of : Nat → Int64) (hst : l.stackTraces = false) (hc0 : inI i9 3) : CTi l yL_isGuarded wsL_isGuarded ({ frames := 8, cells := 1, slots := 6, locals := 124 }) D ty [.ref bc, .int i9, .ref ot] [[la ty ot 1 of], [ob bc 8 [.ref tx, .ref (a 0), .ref (b 0), .ref hi, .ref sl]], (stW ty a r x y g)] (fun (RET : Int32) (_ : Unit) => RET = 0) (fun (_ : Unit) => [[la ty ot 1 (vp_updL of 0 (Int32.toInt64 (bz (r (24 + i9.toNatClampNeg)))))], [ob bc 8 [.ref tx, .ref (a 0), .ref (b 0), .ref hi, .ref sl]], (stW ty a r x y g)]) := by
  refine CTi_ofH cL_isGuarded 4 (some .int) [(0, 16, 19, 31)] (by decide) rfl (Nat.le_of_ble_eq_true rfl) ?_
  intro p e s m args below meth c A hx hb hr hml hown hlocks hin hts hA hX hK hP hD ht0 ls hl
  have hown : s.vm.findClass RL = some m.cls := hown
  have hS : va_S A s.heap s.heap [] := va_S.rf
  have hl : lv_has ls 4 [(0, .ref bc), (1, .int i9), (2, .ref ot)] := hl
  refine lv_aload_n hx hb dL_isGuarded_0 rfl (lv_at hl 2 rfl) ?_
  refine lv_iconst (v := 0) hx hb dL_isGuarded_1 (by decide) ?_
  refine lv_aload_n hx hb dL_isGuarded_2 rfl (lv_at hl 0 rfl) ?_
  refine lv_iload_n hx hb dL_isGuarded_3 rfl (lv_at hl 1 rfl) ?_
  refine cVxi (As := [.int i9]) (rest := [.int 0, .ref ot]) ⟨hx, hb, hml, hown, hts⟩ (c_X9_isGuarded l D ty i9 bc tx hi sl b a r x y g hst) (cwV 1 hts gL_isGuarded_X9_isGuarded rfl rfl rfl (by decide +kernel) ⟨Nat.le_of_ble_eq_true rfl, Nat.le_of_ble_eq_true rfl⟩) hK hX hP hD hS hA (pk (bs := [[la ty ot 1 of], [ob bc 8 [.ref tx, .ref (a 0), .ref (b 0), .ref hi, .ref sl]], (stW ty a r x y g)]) (bsc := [[ob bc 8 [.ref tx, .ref (a 0), .ref (b 0), .ref hi, .ref sl]], (stW ty a r x y g)]) (bsr := [[la ty ot 1 of]]) [1, 2] [0] 3 rfl (by decide +kernel) rfl rfl) (ci := 8) rfl 0 rfl rfl hl.1 rfl (Nat.le_of_ble_eq_true rfl) dL_isGuarded_4 ⟨Nat.le_of_ble_eq_true rfl, Nat.le_of_ble_eq_true rfl⟩ (fun E hE ce q9 H locs hP hD hS hce hcv hcl => ?_) (fun r9 u9 h9 H locs hP hD hS => ?_)
  · skip
    obtain ⟨hEE, h0⟩ := hE
    exact absurd hc0 h0
  · skip
    have hP : va_P D vwCl (fl [[la ty ot 1 of], [ob bc 8 [.ref tx, .ref (a 0), .ref (b 0), .ref hi, .ref sl]], (stW ty a r x y g)]) H := P_perm (po (bs := [[ob bc 8 [.ref tx, .ref (a 0), .ref (b 0), .ref hi, .ref sl]], (stW ty a r x y g), [la ty ot 1 of]]) [2, 0, 1] 3 rfl (by decide +kernel) rfl) hP
    have hD : va_D A (fl [[la ty ot 1 of], [ob bc 8 [.ref tx, .ref (a 0), .ref (b 0), .ref hi, .ref sl]], (stW ty a r x y g)]) := D_perm (po (bs := [[ob bc 8 [.ref tx, .ref (a 0), .ref (b 0), .ref hi, .ref sl]], (stW ty a r x y g), [la ty ot 1 of]]) [2, 0, 1] 3 rfl (by decide +kernel) rfl) hD
    have h8 : r9 = (bz (r (24 + i9.toNatClampNeg))) := h9.1
    subst h8
    refine lv_if_eq (tgt := 14) hx hb dL_isGuarded_7 (by decide) (fun c_1 => ?_) (fun c_1 => ?_)
    · skip
      refine lv_lconst (v := 0) hx hb dL_isGuarded_14 (by decide) ?_
      refine k_last hx hb hK hP hD hS 0 rfl 0 rfl (by decide) (Nat.le_of_ble_eq_true rfl) dL_isGuarded_15 (fun H locs hP hD hS => ?_)
      have hP : va_P D vwCl (fl [[la ty ot 1 (vp_updL of 0 0)], [ob bc 8 [.ref tx, .ref (a 0), .ref (b 0), .ref hi, .ref sl]], (stW ty a r x y g)]) H := hP
      have hD : va_D A (fl [[la ty ot 1 (vp_updL of 0 0)], [ob bc 8 [.ref tx, .ref (a 0), .ref (b 0), .ref hi, .ref sl]], (stW ty a r x y g)]) := hD
      refine lv_goto (tgt := 22) hx hb dL_isGuarded_16 (by decide) ?_
      refine lv_iconst (v := 0) hx hb dL_isGuarded_22 (by decide) ?_
      have hV : Int32.toInt64 (bz (r (24 + i9.toNatClampNeg))) = 0 := by rw [show bz (r (24 + i9.toNatClampNeg)) = 0 from c_1]; decide +kernel
      have hP : va_P D vwCl (fl [[la ty ot 1 (vp_updL of 0 (Int32.toInt64 (bz (r (24 + i9.toNatClampNeg)))))], [ob bc 8 [.ref tx, .ref (a 0), .ref (b 0), .ref hi, .ref sl]], (stW ty a r x y g)]) H := by rw [hV]; exact hP
      have hD : va_D A (fl [[la ty ot 1 (vp_updL of 0 (Int32.toInt64 (bz (r (24 + i9.toNatClampNeg)))))], [ob bc 8 [.ref tx, .ref (a 0), .ref (b 0), .ref hi, .ref sl]], (stW ty a r x y g)]) := (D_same2 hD [ot, bc, (a 0), (a 1), (a 2), (a 6), (a 3), (a 7), (a 8), (a 9), (a 10), (a 4), (a 5), (a 11), (a 12), (a 13), (a 14)] rfl rfl)
      exact end_i (bs' := (fun (_ : Unit) => [[la ty ot 1 (vp_updL of 0 (Int32.toInt64 (bz (r (24 + i9.toNatClampNeg)))))], [ob bc 8 [.ref tx, .ref (a 0), .ref (b 0), .ref hi, .ref sl]], (stW ty a r x y g)])) () hx hb hr hlocks hP hD hS (by first | rfl | decide | simp [c_1]) (Nat.le_of_ble_eq_true rfl) (Nat.le_of_ble_eq_true rfl) dL_isGuarded_23
    · skip
      refine lv_lconst (v := 1) hx hb dL_isGuarded_10 (by decide) ?_
      refine lv_goto (tgt := 15) hx hb dL_isGuarded_11 (by decide) ?_
      refine k_last hx hb hK hP hD hS 0 rfl 0 rfl (by decide) (Nat.le_of_ble_eq_true rfl) dL_isGuarded_15 (fun H locs hP hD hS => ?_)
      have hP : va_P D vwCl (fl [[la ty ot 1 (vp_updL of 0 1)], [ob bc 8 [.ref tx, .ref (a 0), .ref (b 0), .ref hi, .ref sl]], (stW ty a r x y g)]) H := hP
      have hD : va_D A (fl [[la ty ot 1 (vp_updL of 0 1)], [ob bc 8 [.ref tx, .ref (a 0), .ref (b 0), .ref hi, .ref sl]], (stW ty a r x y g)]) := hD
      refine lv_goto (tgt := 22) hx hb dL_isGuarded_16 (by decide) ?_
      refine lv_iconst (v := 0) hx hb dL_isGuarded_22 (by decide) ?_
      have hV : Int32.toInt64 (bz (r (24 + i9.toNatClampNeg))) = 1 := by rw [show bz (r (24 + i9.toNatClampNeg)) = 1 from (bz_or _).resolve_left c_1]; decide +kernel
      have hP : va_P D vwCl (fl [[la ty ot 1 (vp_updL of 0 (Int32.toInt64 (bz (r (24 + i9.toNatClampNeg)))))], [ob bc 8 [.ref tx, .ref (a 0), .ref (b 0), .ref hi, .ref sl]], (stW ty a r x y g)]) H := by rw [hV]; exact hP
      have hD : va_D A (fl [[la ty ot 1 (vp_updL of 0 (Int32.toInt64 (bz (r (24 + i9.toNatClampNeg)))))], [ob bc 8 [.ref tx, .ref (a 0), .ref (b 0), .ref hi, .ref sl]], (stW ty a r x y g)]) := (D_same2 hD [ot, bc, (a 0), (a 1), (a 2), (a 6), (a 3), (a 7), (a 8), (a 9), (a 10), (a 4), (a 5), (a 11), (a 12), (a 13), (a 14)] rfl rfl)
      exact end_i (bs' := (fun (_ : Unit) => [[la ty ot 1 (vp_updL of 0 (Int32.toInt64 (bz (r (24 + i9.toNatClampNeg)))))], [ob bc 8 [.ref tx, .ref (a 0), .ref (b 0), .ref hi, .ref sl]], (stW ty a r x y g)])) () hx hb hr hlocks hP hD hS (by first | rfl | decide | simp [c_1]) (Nat.le_of_ble_eq_true rfl) (Nat.le_of_ble_eq_true rfl) dL_isGuarded_23
set_option maxHeartbeats 4000000 in
set_option maxRecDepth 100000 in
theorem c_L_isGuarded_n0 (l : Launch) (D : va_G) (ty : Nat → ClassId) (i9 : Int32) (bc tx hi sl : Nat) (b : Nat → Nat) (a : Nat → Nat) (r : Nat → Int32) (x y : Int64) (g : Nat → Nat → Int32) (ot : Nat) (of : Nat → Int64) (hst : l.stackTraces = false) (hc0 : ¬ (inI i9 3)) : CTi l yL_isGuarded wsL_isGuarded ({ frames := 8, cells := 1, slots := 6, locals := 124 }) D ty [.ref bc, .int i9, .ref ot] [[la ty ot 1 of], [ob bc 8 [.ref tx, .ref (a 0), .ref (b 0), .ref hi, .ref sl]], (stW ty a r x y g)] (fun (RET : Int32) (_ : Unit) => RET = 1) (fun (_ : Unit) => [[la ty ot 1 of], [ob bc 8 [.ref tx, .ref (a 0), .ref (b 0), .ref hi, .ref sl]], (stW ty a r x y g)]) := by
  refine CTi_ofH cL_isGuarded 4 (some .int) [(0, 16, 19, 31)] (by decide) rfl (Nat.le_of_ble_eq_true rfl) ?_
  intro p e s m args below meth c A hx hb hr hml hown hlocks hin hts hA hX hK hP hD ht0 ls hl
  have hown : s.vm.findClass RL = some m.cls := hown
  have hS : va_S A s.heap s.heap [] := va_S.rf
  have hl : lv_has ls 4 [(0, .ref bc), (1, .int i9), (2, .ref ot)] := hl
  refine lv_aload_n hx hb dL_isGuarded_0 rfl (lv_at hl 2 rfl) ?_
  refine lv_iconst (v := 0) hx hb dL_isGuarded_1 (by decide) ?_
  refine lv_aload_n hx hb dL_isGuarded_2 rfl (lv_at hl 0 rfl) ?_
  refine lv_iload_n hx hb dL_isGuarded_3 rfl (lv_at hl 1 rfl) ?_
  refine cVxi (As := [.int i9]) (rest := [.int 0, .ref ot]) ⟨hx, hb, hml, hown, hts⟩ (c_X9_isGuarded l D ty i9 bc tx hi sl b a r x y g hst) (cwV 1 hts gL_isGuarded_X9_isGuarded rfl rfl rfl (by decide +kernel) ⟨Nat.le_of_ble_eq_true rfl, Nat.le_of_ble_eq_true rfl⟩) hK hX hP hD hS hA (pk (bs := [[la ty ot 1 of], [ob bc 8 [.ref tx, .ref (a 0), .ref (b 0), .ref hi, .ref sl]], (stW ty a r x y g)]) (bsc := [[ob bc 8 [.ref tx, .ref (a 0), .ref (b 0), .ref hi, .ref sl]], (stW ty a r x y g)]) (bsr := [[la ty ot 1 of]]) [1, 2] [0] 3 rfl (by decide +kernel) rfl rfl) (ci := 8) rfl 0 rfl rfl hl.1 rfl (Nat.le_of_ble_eq_true rfl) dL_isGuarded_4 ⟨Nat.le_of_ble_eq_true rfl, Nat.le_of_ble_eq_true rfl⟩ (fun E hE ce q9 H locs hP hD hS hce hcv hcl => ?_) (fun r9 u9 h9 H locs hP hD hS => ?_)
  · skip
    obtain ⟨hEE, h0⟩ := hE
    subst hEE
    have hP : va_P D vwCl (fl [[la ty ot 1 of], [ob bc 8 [.ref tx, .ref (a 0), .ref (b 0), .ref hi, .ref sl]], (stW ty a r x y g)]) H := P_perm (po (bs := [[ob bc 8 [.ref tx, .ref (a 0), .ref (b 0), .ref hi, .ref sl]], (stW ty a r x y g), [la ty ot 1 of]]) [2, 0, 1] 3 rfl (by decide +kernel) rfl) hP
    have hD : va_D A (fl [[la ty ot 1 of], [ob bc 8 [.ref tx, .ref (a 0), .ref (b 0), .ref hi, .ref sl]], (stW ty a r x y g)]) := D_perm (po (bs := [[ob bc 8 [.ref tx, .ref (a 0), .ref (b 0), .ref hi, .ref sl]], (stW ty a r x y g), [la ty ot 1 of]]) [2, 0, 1] 3 rfl (by decide +kernel) rfl) hD
    refine vx_catch (own := RL) (name := EIO) (E := EIO) hown [] ⟨0, 16, 19, 31⟩ [] (ht0.trans rfl) (fun z hz => by cases hz) (by decide) (by decide) (hts (Cond.classLink RL 31 "java/lang/IndexOutOfBoundsException") (List.mem_of_getElem? (i := 1) rfl)) (va_Nw.use rfl hX.1.2.2.1.2.2) hce hcv hcl ?_
    refine lv_astore_n (lv' := [(3, .ref q9), (0, .ref bc), (1, .int i9), (2, .ref ot)]) hx hb dL_isGuarded_19 rfl hl (by decide) rfl (fun ls hl => ?_)
    refine lv_iconst (v := 1) hx hb dL_isGuarded_20 (by decide) ?_
    have hP : va_P D vwCl (fl [[la ty ot 1 of], [ob bc 8 [.ref tx, .ref (a 0), .ref (b 0), .ref hi, .ref sl]], (stW ty a r x y g)]) H := hP
    have hD : va_D A (fl [[la ty ot 1 of], [ob bc 8 [.ref tx, .ref (a 0), .ref (b 0), .ref hi, .ref sl]], (stW ty a r x y g)]) := hD
    exact end_i (bs' := (fun (_ : Unit) => [[la ty ot 1 of], [ob bc 8 [.ref tx, .ref (a 0), .ref (b 0), .ref hi, .ref sl]], (stW ty a r x y g)])) () hx hb hr hlocks hP hD hS (by first | rfl | decide | simp []) (Nat.le_of_ble_eq_true rfl) (Nat.le_of_ble_eq_true rfl) dL_isGuarded_21
  · exact absurd h9.2 hc0
set_option maxHeartbeats 4000000 in
set_option maxRecDepth 100000 in
theorem c_L_row (l : Launch) (D : va_G) (ty : Nat → ClassId) (i9 w9 : Int32) (bc tx hi sl : Nat) (b : Nat → Nat) (a : Nat → Nat) (r : Nat → Int32) (x y : Int64) (g : Nat → Nat → Int32) (ot : Nat) (of : Nat → Int64) (hst : l.stackTraces = false) (h6 : r 11 ≤ 6) (hc0 : inI i9 (r 11)) (hc1 : inR w9 0 2) : CTi l yL_row wsL_row ({ frames := 8, cells := 2, slots := 12, locals := 126 }) D ty [.ref bc, .int i9, .int w9, .ref ot] [[la ty ot 1 of], [ob bc 8 [.ref tx, .ref (a 0), .ref (b 0), .ref hi, .ref sl]], (stW ty a r x y g)] (fun (RET : Int32) (_ : Unit) => RET = 0) (fun (_ : Unit) => [[la ty ot 1 (vp_updL of 0 (Int32.toInt64 (if w9 = 0 then g 0 i9.toNatClampNeg else if w9 = 1 then g 1 i9.toNatClampNeg else g 2 i9.toNatClampNeg)))], [ob bc 8 [.ref tx, .ref (a 0), .ref (b 0), .ref hi, .ref sl]], (stW ty a r x y g)]) := by
  refine CTi_ofH cL_row 5 (some .int) [(0, 10, 13, 31), (0, 10, 17, 13)] (by decide) rfl (Nat.le_of_ble_eq_true rfl) ?_
  intro p e s m args below meth c A hx hb hr hml hown hlocks hin hts hA hX hK hP hD ht0 ls hl
  have hown : s.vm.findClass RL = some m.cls := hown
  have hS : va_S A s.heap s.heap [] := va_S.rf
  have hl : lv_has ls 5 [(0, .ref bc), (1, .int i9), (2, .int w9), (3, .ref ot)] := hl
  refine lv_aload_n hx hb dL_row_0 rfl (lv_at hl 3 rfl) ?_
  refine lv_iconst (v := 0) hx hb dL_row_1 (by decide) ?_
  refine lv_aload_n hx hb dL_row_2 rfl (lv_at hl 0 rfl) ?_
  refine lv_iload_n hx hb dL_row_3 rfl (lv_at hl 1 rfl) ?_
  refine lv_iload_n hx hb dL_row_4 rfl (lv_at hl 2 rfl) ?_
  refine cVxi (As := [.int i9, .int w9]) (rest := [.int 0, .ref ot]) ⟨hx, hb, hml, hown, hts⟩ (c_X9_row l D ty i9 w9 bc tx hi sl b a r x y g hst h6) (cwV 2 hts gL_row_X9_row rfl rfl rfl (by decide +kernel) ⟨Nat.le_of_ble_eq_true rfl, Nat.le_of_ble_eq_true rfl⟩) hK hX hP hD hS hA (pk (bs := [[la ty ot 1 of], [ob bc 8 [.ref tx, .ref (a 0), .ref (b 0), .ref hi, .ref sl]], (stW ty a r x y g)]) (bsc := [[ob bc 8 [.ref tx, .ref (a 0), .ref (b 0), .ref hi, .ref sl]], (stW ty a r x y g)]) (bsr := [[la ty ot 1 of]]) [1, 2] [0] 3 rfl (by decide +kernel) rfl rfl) (ci := 8) rfl 0 rfl rfl hl.1 rfl (Nat.le_of_ble_eq_true rfl) dL_row_5 ⟨Nat.le_of_ble_eq_true rfl, Nat.le_of_ble_eq_true rfl⟩ (fun E hE ce q9 H locs hP hD hS hce hcv hcl => ?_) (fun r9 u9 h9 H locs hP hD hS => ?_)
  · skip
    rcases hE with ⟨hEE, h0⟩ | ⟨hEE, k0, h1⟩
    · skip
      exact absurd hc0 h0
    · skip
      exact absurd hc1 h1
  · skip
    have hP : va_P D vwCl (fl [[la ty ot 1 of], [ob bc 8 [.ref tx, .ref (a 0), .ref (b 0), .ref hi, .ref sl]], (stW ty a r x y g)]) H := P_perm (po (bs := [[ob bc 8 [.ref tx, .ref (a 0), .ref (b 0), .ref hi, .ref sl]], (stW ty a r x y g), [la ty ot 1 of]]) [2, 0, 1] 3 rfl (by decide +kernel) rfl) hP
    have hD : va_D A (fl [[la ty ot 1 of], [ob bc 8 [.ref tx, .ref (a 0), .ref (b 0), .ref hi, .ref sl]], (stW ty a r x y g)]) := D_perm (po (bs := [[ob bc 8 [.ref tx, .ref (a 0), .ref (b 0), .ref hi, .ref sl]], (stW ty a r x y g), [la ty ot 1 of]]) [2, 0, 1] 3 rfl (by decide +kernel) rfl) hD
    have h8 : r9 = (if w9 = 0 then g 0 i9.toNatClampNeg else if w9 = 1 then g 1 i9.toNatClampNeg else g 2 i9.toNatClampNeg) := h9.1
    subst h8
    refine lv_i2l (v := (Int32.toInt64 (if w9 = 0 then g 0 i9.toNatClampNeg else if w9 = 1 then g 1 i9.toNatClampNeg else g 2 i9.toNatClampNeg))) hx hb dL_row_8 rfl ?_
    refine k_last hx hb hK hP hD hS 0 rfl 0 rfl (by decide) (Nat.le_of_ble_eq_true rfl) dL_row_9 (fun H locs hP hD hS => ?_)
    have hP : va_P D vwCl (fl [[la ty ot 1 (vp_updL of 0 (Int32.toInt64 (if w9 = 0 then g 0 i9.toNatClampNeg else if w9 = 1 then g 1 i9.toNatClampNeg else g 2 i9.toNatClampNeg)))], [ob bc 8 [.ref tx, .ref (a 0), .ref (b 0), .ref hi, .ref sl]], (stW ty a r x y g)]) H := hP
    have hD : va_D A (fl [[la ty ot 1 (vp_updL of 0 (Int32.toInt64 (if w9 = 0 then g 0 i9.toNatClampNeg else if w9 = 1 then g 1 i9.toNatClampNeg else g 2 i9.toNatClampNeg)))], [ob bc 8 [.ref tx, .ref (a 0), .ref (b 0), .ref hi, .ref sl]], (stW ty a r x y g)]) := hD
    refine lv_goto (tgt := 21) hx hb dL_row_10 (by decide) ?_
    refine lv_iconst (v := 0) hx hb dL_row_21 (by decide) ?_
    have hP : va_P D vwCl (fl [[la ty ot 1 (vp_updL of 0 (Int32.toInt64 (if w9 = 0 then g 0 i9.toNatClampNeg else if w9 = 1 then g 1 i9.toNatClampNeg else g 2 i9.toNatClampNeg)))], [ob bc 8 [.ref tx, .ref (a 0), .ref (b 0), .ref hi, .ref sl]], (stW ty a r x y g)]) H := hP
    have hD : va_D A (fl [[la ty ot 1 (vp_updL of 0 (Int32.toInt64 (if w9 = 0 then g 0 i9.toNatClampNeg else if w9 = 1 then g 1 i9.toNatClampNeg else g 2 i9.toNatClampNeg)))], [ob bc 8 [.ref tx, .ref (a 0), .ref (b 0), .ref hi, .ref sl]], (stW ty a r x y g)]) := hD
    exact end_i (bs' := (fun (_ : Unit) => [[la ty ot 1 (vp_updL of 0 (Int32.toInt64 (if w9 = 0 then g 0 i9.toNatClampNeg else if w9 = 1 then g 1 i9.toNatClampNeg else g 2 i9.toNatClampNeg)))], [ob bc 8 [.ref tx, .ref (a 0), .ref (b 0), .ref hi, .ref sl]], (stW ty a r x y g)])) () hx hb hr hlocks hP hD hS (by first | rfl | decide | simp []) (Nat.le_of_ble_eq_true rfl) (Nat.le_of_ble_eq_true rfl) dL_row_22
set_option maxHeartbeats 4000000 in
set_option maxRecDepth 100000 in
theorem c_L_row_n0 (l : Launch) (D : va_G) (ty : Nat → ClassId) (i9 w9 : Int32) (bc tx hi sl : Nat) (b : Nat → Nat) (a : Nat → Nat) (r : Nat → Int32) (x y : Int64) (g : Nat → Nat → Int32) (ot : Nat) (of : Nat → Int64) (hst : l.stackTraces = false) (h6 : r 11 ≤ 6) (hc0 : ¬ (inI i9 (r 11))) : CTi l yL_row wsL_row ({ frames := 8, cells := 2, slots := 12, locals := 126 }) D ty [.ref bc, .int i9, .int w9, .ref ot] [[la ty ot 1 of], [ob bc 8 [.ref tx, .ref (a 0), .ref (b 0), .ref hi, .ref sl]], (stW ty a r x y g)] (fun (RET : Int32) (_ : Unit) => RET = 1) (fun (_ : Unit) => [[la ty ot 1 of], [ob bc 8 [.ref tx, .ref (a 0), .ref (b 0), .ref hi, .ref sl]], (stW ty a r x y g)]) := by
  refine CTi_ofH cL_row 5 (some .int) [(0, 10, 13, 31), (0, 10, 17, 13)] (by decide) rfl (Nat.le_of_ble_eq_true rfl) ?_
  intro p e s m args below meth c A hx hb hr hml hown hlocks hin hts hA hX hK hP hD ht0 ls hl
  have hown : s.vm.findClass RL = some m.cls := hown
  have hS : va_S A s.heap s.heap [] := va_S.rf
  have hl : lv_has ls 5 [(0, .ref bc), (1, .int i9), (2, .int w9), (3, .ref ot)] := hl
  refine lv_aload_n hx hb dL_row_0 rfl (lv_at hl 3 rfl) ?_
  refine lv_iconst (v := 0) hx hb dL_row_1 (by decide) ?_
  refine lv_aload_n hx hb dL_row_2 rfl (lv_at hl 0 rfl) ?_
  refine lv_iload_n hx hb dL_row_3 rfl (lv_at hl 1 rfl) ?_
  refine lv_iload_n hx hb dL_row_4 rfl (lv_at hl 2 rfl) ?_
  refine cVxi (As := [.int i9, .int w9]) (rest := [.int 0, .ref ot]) ⟨hx, hb, hml, hown, hts⟩ (c_X9_row l D ty i9 w9 bc tx hi sl b a r x y g hst h6) (cwV 2 hts gL_row_X9_row rfl rfl rfl (by decide +kernel) ⟨Nat.le_of_ble_eq_true rfl, Nat.le_of_ble_eq_true rfl⟩) hK hX hP hD hS hA (pk (bs := [[la ty ot 1 of], [ob bc 8 [.ref tx, .ref (a 0), .ref (b 0), .ref hi, .ref sl]], (stW ty a r x y g)]) (bsc := [[ob bc 8 [.ref tx, .ref (a 0), .ref (b 0), .ref hi, .ref sl]], (stW ty a r x y g)]) (bsr := [[la ty ot 1 of]]) [1, 2] [0] 3 rfl (by decide +kernel) rfl rfl) (ci := 8) rfl 0 rfl rfl hl.1 rfl (Nat.le_of_ble_eq_true rfl) dL_row_5 ⟨Nat.le_of_ble_eq_true rfl, Nat.le_of_ble_eq_true rfl⟩ (fun E hE ce q9 H locs hP hD hS hce hcv hcl => ?_) (fun r9 u9 h9 H locs hP hD hS => ?_)
  · skip
    rcases hE with ⟨hEE, h0⟩ | ⟨hEE, k0, h1⟩
    · skip
      subst hEE
      have hP : va_P D vwCl (fl [[la ty ot 1 of], [ob bc 8 [.ref tx, .ref (a 0), .ref (b 0), .ref hi, .ref sl]], (stW ty a r x y g)]) H := P_perm (po (bs := [[ob bc 8 [.ref tx, .ref (a 0), .ref (b 0), .ref hi, .ref sl]], (stW ty a r x y g), [la ty ot 1 of]]) [2, 0, 1] 3 rfl (by decide +kernel) rfl) hP
      have hD : va_D A (fl [[la ty ot 1 of], [ob bc 8 [.ref tx, .ref (a 0), .ref (b 0), .ref hi, .ref sl]], (stW ty a r x y g)]) := D_perm (po (bs := [[ob bc 8 [.ref tx, .ref (a 0), .ref (b 0), .ref hi, .ref sl]], (stW ty a r x y g), [la ty ot 1 of]]) [2, 0, 1] 3 rfl (by decide +kernel) rfl) hD
      refine vx_catch (own := RL) (name := EIO) (E := EIO) hown [] ⟨0, 10, 13, 31⟩ [⟨0, 10, 17, 13⟩] (ht0.trans rfl) (fun z hz => by cases hz) (by decide) (by decide) (hts (Cond.classLink RL 31 "java/lang/IndexOutOfBoundsException") (List.mem_of_getElem? (i := 1) rfl)) (va_Nw.use rfl hX.1.2.2.1.2.2) hce hcv hcl ?_
      refine lv_astore (lv' := [(4, .ref q9), (0, .ref bc), (1, .int i9), (2, .int w9), (3, .ref ot)]) hx hb dL_row_13 hl (by decide) rfl (fun ls hl => ?_)
      refine lv_iconst (v := 1) hx hb dL_row_15 (by decide) ?_
      have hP : va_P D vwCl (fl [[la ty ot 1 of], [ob bc 8 [.ref tx, .ref (a 0), .ref (b 0), .ref hi, .ref sl]], (stW ty a r x y g)]) H := hP
      have hD : va_D A (fl [[la ty ot 1 of], [ob bc 8 [.ref tx, .ref (a 0), .ref (b 0), .ref hi, .ref sl]], (stW ty a r x y g)]) := hD
      exact end_i (bs' := (fun (_ : Unit) => [[la ty ot 1 of], [ob bc 8 [.ref tx, .ref (a 0), .ref (b 0), .ref hi, .ref sl]], (stW ty a r x y g)])) () hx hb hr hlocks hP hD hS (by first | rfl | decide | simp []) (Nat.le_of_ble_eq_true rfl) (Nat.le_of_ble_eq_true rfl) dL_row_16
    · skip
      exact absurd k0 hc0
  · exact absurd h9.2.1 hc0
set_option maxHeartbeats 4000000 in
set_option maxRecDepth 100000 in
theorem c_L_row_n1 (l : Launch) (D : va_G) (ty : Nat → ClassId) (i9 w9 : Int32) (bc tx hi sl : Nat) (b : Nat → Nat) (a : Nat → Nat) (r : Nat → Int32) (x y : Int64) (g : Nat → Nat → Int32) (ot : Nat) (of : Nat → Int64) (hst : l.stackTraces = false) (h6 : r 11 ≤ 6) (hc0 : inI i9 (r 11)) (hc1 : ¬ (inR w9 0 2)) : CTi l yL_row wsL_row ({ frames := 8, cells := 2, slots := 12, locals := 126 }) D ty [.ref bc, .int i9, .int w9, .ref ot] [[la ty ot 1 of], [ob bc 8 [.ref tx, .ref (a 0), .ref (b 0), .ref hi, .ref sl]], (stW ty a r x y g)] (fun (RET : Int32) (_ : Unit) => RET = 2) (fun (_ : Unit) => [[la ty ot 1 of], [ob bc 8 [.ref tx, .ref (a 0), .ref (b 0), .ref hi, .ref sl]], (stW ty a r x y g)]) := by
  refine CTi_ofH cL_row 5 (some .int) [(0, 10, 13, 31), (0, 10, 17, 13)] (by decide) rfl (Nat.le_of_ble_eq_true rfl) ?_
  intro p e s m args below meth c A hx hb hr hml hown hlocks hin hts hA hX hK hP hD ht0 ls hl
  have hown : s.vm.findClass RL = some m.cls := hown
  have hS : va_S A s.heap s.heap [] := va_S.rf
  have hl : lv_has ls 5 [(0, .ref bc), (1, .int i9), (2, .int w9), (3, .ref ot)] := hl
  refine lv_aload_n hx hb dL_row_0 rfl (lv_at hl 3 rfl) ?_
  refine lv_iconst (v := 0) hx hb dL_row_1 (by decide) ?_
  refine lv_aload_n hx hb dL_row_2 rfl (lv_at hl 0 rfl) ?_
  refine lv_iload_n hx hb dL_row_3 rfl (lv_at hl 1 rfl) ?_
  refine lv_iload_n hx hb dL_row_4 rfl (lv_at hl 2 rfl) ?_
  refine cVxi (As := [.int i9, .int w9]) (rest := [.int 0, .ref ot]) ⟨hx, hb, hml, hown, hts⟩ (c_X9_row l D ty i9 w9 bc tx hi sl b a r x y g hst h6) (cwV 2 hts gL_row_X9_row rfl rfl rfl (by decide +kernel) ⟨Nat.le_of_ble_eq_true rfl, Nat.le_of_ble_eq_true rfl⟩) hK hX hP hD hS hA (pk (bs := [[la ty ot 1 of], [ob bc 8 [.ref tx, .ref (a 0), .ref (b 0), .ref hi, .ref sl]], (stW ty a r x y g)]) (bsc := [[ob bc 8 [.ref tx, .ref (a 0), .ref (b 0), .ref hi, .ref sl]], (stW ty a r x y g)]) (bsr := [[la ty ot 1 of]]) [1, 2] [0] 3 rfl (by decide +kernel) rfl rfl) (ci := 8) rfl 0 rfl rfl hl.1 rfl (Nat.le_of_ble_eq_true rfl) dL_row_5 ⟨Nat.le_of_ble_eq_true rfl, Nat.le_of_ble_eq_true rfl⟩ (fun E hE ce q9 H locs hP hD hS hce hcv hcl => ?_) (fun r9 u9 h9 H locs hP hD hS => ?_)
  · skip
    rcases hE with ⟨hEE, h0⟩ | ⟨hEE, k0, h1⟩
    · skip
      exact absurd hc0 h0
    · skip
      subst hEE
      have hP : va_P D vwCl (fl [[la ty ot 1 of], [ob bc 8 [.ref tx, .ref (a 0), .ref (b 0), .ref hi, .ref sl]], (stW ty a r x y g)]) H := P_perm (po (bs := [[ob bc 8 [.ref tx, .ref (a 0), .ref (b 0), .ref hi, .ref sl]], (stW ty a r x y g), [la ty ot 1 of]]) [2, 0, 1] 3 rfl (by decide +kernel) rfl) hP
      have hD : va_D A (fl [[la ty ot 1 of], [ob bc 8 [.ref tx, .ref (a 0), .ref (b 0), .ref hi, .ref sl]], (stW ty a r x y g)]) := D_perm (po (bs := [[ob bc 8 [.ref tx, .ref (a 0), .ref (b 0), .ref hi, .ref sl]], (stW ty a r x y g), [la ty ot 1 of]]) [2, 0, 1] 3 rfl (by decide +kernel) rfl) hD
      refine vx_catch (own := RL) (name := EIA) (E := EIA) hown [⟨0, 10, 13, 31⟩] ⟨0, 10, 17, 13⟩ [] (ht0.trans rfl) (List.forall_mem_cons.mpr ⟨Or.inr ⟨by decide, _, (hts (Cond.classLink RL 31 "java/lang/IndexOutOfBoundsException") (List.mem_of_getElem? (i := 1) rfl)), hX.1.2.2.2.1.1.2.1⟩, (fun z hz => absurd hz List.not_mem_nil)⟩) (by decide) (by decide) (hts (Cond.classLink RL 13 "java/lang/IllegalArgumentException") (List.mem_of_getElem? (i := 2) rfl)) (va_Nw.use rfl hX.1.2.2.1.1) hce hcv hcl ?_
      refine lv_astore (lv' := [(4, .ref q9), (0, .ref bc), (1, .int i9), (2, .int w9), (3, .ref ot)]) hx hb dL_row_17 hl (by decide) rfl (fun ls hl => ?_)
      refine lv_iconst (v := 2) hx hb dL_row_19 (by decide) ?_
      have hP : va_P D vwCl (fl [[la ty ot 1 of], [ob bc 8 [.ref tx, .ref (a 0), .ref (b 0), .ref hi, .ref sl]], (stW ty a r x y g)]) H := hP
      have hD : va_D A (fl [[la ty ot 1 of], [ob bc 8 [.ref tx, .ref (a 0), .ref (b 0), .ref hi, .ref sl]], (stW ty a r x y g)]) := hD
      exact end_i (bs' := (fun (_ : Unit) => [[la ty ot 1 of], [ob bc 8 [.ref tx, .ref (a 0), .ref (b 0), .ref hi, .ref sl]], (stW ty a r x y g)])) () hx hb hr hlocks hP hD hS (by first | rfl | decide | simp []) (Nat.le_of_ble_eq_true rfl) (Nat.le_of_ble_eq_true rfl) dL_row_20
  · exact absurd h9.2.2 hc1
set_option maxHeartbeats 4000000 in
set_option maxRecDepth 100000 in
theorem c_L_alarm (l : Launch) (D : va_G) (ty : Nat → ClassId) (i9 w9 : Int32) (bc tx hi sl : Nat) (b : Nat → Nat) (a : Nat → Nat) (r : Nat → Int32) (x y : Int64) (g : Nat → Nat → Int32) (ot : Nat) (of : Nat → Int64) (hst : l.stackTraces = false) (hc0 : inI i9 4) (hc1 : inR w9 0 2) : CTi l yL_alarm wsL_alarm ({ frames := 8, cells := 2, slots := 12, locals := 126 }) D ty [.ref bc, .int i9, .int w9, .ref ot] [[la ty ot 1 of], [ob bc 8 [.ref tx, .ref (a 0), .ref (b 0), .ref hi, .ref sl]], (stW ty a r x y g)] (fun (RET : Int32) (_ : Unit) => RET = 0) (fun (_ : Unit) => [[la ty ot 1 (vp_updL of 0 (Int32.toInt64 (if w9 = 0 then r (27 + 3 * i9.toNatClampNeg) else if w9 = 1 then bz (r (28 + 3 * i9.toNatClampNeg)) else r (29 + 3 * i9.toNatClampNeg))))], [ob bc 8 [.ref tx, .ref (a 0), .ref (b 0), .ref hi, .ref sl]], (stW ty a r x y g)]) := by
  refine CTi_ofH cL_alarm 5 (some .int) [(0, 10, 13, 31), (0, 10, 17, 13)] (by decide) rfl (Nat.le_of_ble_eq_true rfl) ?_
  intro p e s m args below meth c A hx hb hr hml hown hlocks hin hts hA hX hK hP hD ht0 ls hl
  have hown : s.vm.findClass RL = some m.cls := hown
  have hS : va_S A s.heap s.heap [] := va_S.rf
  have hl : lv_has ls 5 [(0, .ref bc), (1, .int i9), (2, .int w9), (3, .ref ot)] := hl
  refine lv_aload_n hx hb dL_alarm_0 rfl (lv_at hl 3 rfl) ?_
  refine lv_iconst (v := 0) hx hb dL_alarm_1 (by decide) ?_
  refine lv_aload_n hx hb dL_alarm_2 rfl (lv_at hl 0 rfl) ?_
  refine lv_iload_n hx hb dL_alarm_3 rfl (lv_at hl 1 rfl) ?_
  refine lv_iload_n hx hb dL_alarm_4 rfl (lv_at hl 2 rfl) ?_
  refine cVxi (As := [.int i9, .int w9]) (rest := [.int 0, .ref ot]) ⟨hx, hb, hml, hown, hts⟩ (c_X9_alarm l D ty i9 w9 bc tx hi sl b a r x y g hst) (cwV 2 hts gL_alarm_X9_alarm rfl rfl rfl (by decide +kernel) ⟨Nat.le_of_ble_eq_true rfl, Nat.le_of_ble_eq_true rfl⟩) hK hX hP hD hS hA (pk (bs := [[la ty ot 1 of], [ob bc 8 [.ref tx, .ref (a 0), .ref (b 0), .ref hi, .ref sl]], (stW ty a r x y g)]) (bsc := [[ob bc 8 [.ref tx, .ref (a 0), .ref (b 0), .ref hi, .ref sl]], (stW ty a r x y g)]) (bsr := [[la ty ot 1 of]]) [1, 2] [0] 3 rfl (by decide +kernel) rfl rfl) (ci := 8) rfl 0 rfl rfl hl.1 rfl (Nat.le_of_ble_eq_true rfl) dL_alarm_5 ⟨Nat.le_of_ble_eq_true rfl, Nat.le_of_ble_eq_true rfl⟩ (fun E hE ce q9 H locs hP hD hS hce hcv hcl => ?_) (fun r9 u9 h9 H locs hP hD hS => ?_)
  · skip
    rcases hE with ⟨hEE, h0⟩ | ⟨hEE, k0, h1⟩
    · skip
      exact absurd hc0 h0
    · skip
      exact absurd hc1 h1
  · skip
    have hP : va_P D vwCl (fl [[la ty ot 1 of], [ob bc 8 [.ref tx, .ref (a 0), .ref (b 0), .ref hi, .ref sl]], (stW ty a r x y g)]) H := P_perm (po (bs := [[ob bc 8 [.ref tx, .ref (a 0), .ref (b 0), .ref hi, .ref sl]], (stW ty a r x y g), [la ty ot 1 of]]) [2, 0, 1] 3 rfl (by decide +kernel) rfl) hP
    have hD : va_D A (fl [[la ty ot 1 of], [ob bc 8 [.ref tx, .ref (a 0), .ref (b 0), .ref hi, .ref sl]], (stW ty a r x y g)]) := D_perm (po (bs := [[ob bc 8 [.ref tx, .ref (a 0), .ref (b 0), .ref hi, .ref sl]], (stW ty a r x y g), [la ty ot 1 of]]) [2, 0, 1] 3 rfl (by decide +kernel) rfl) hD
    have h8 : r9 = (if w9 = 0 then r (27 + 3 * i9.toNatClampNeg) else if w9 = 1 then bz (r (28 + 3 * i9.toNatClampNeg)) else r (29 + 3 * i9.toNatClampNeg)) := h9.1
    subst h8
    refine lv_i2l (v := (Int32.toInt64 (if w9 = 0 then r (27 + 3 * i9.toNatClampNeg) else if w9 = 1 then bz (r (28 + 3 * i9.toNatClampNeg)) else r (29 + 3 * i9.toNatClampNeg)))) hx hb dL_alarm_8 rfl ?_
    refine k_last hx hb hK hP hD hS 0 rfl 0 rfl (by decide) (Nat.le_of_ble_eq_true rfl) dL_alarm_9 (fun H locs hP hD hS => ?_)
    have hP : va_P D vwCl (fl [[la ty ot 1 (vp_updL of 0 (Int32.toInt64 (if w9 = 0 then r (27 + 3 * i9.toNatClampNeg) else if w9 = 1 then bz (r (28 + 3 * i9.toNatClampNeg)) else r (29 + 3 * i9.toNatClampNeg))))], [ob bc 8 [.ref tx, .ref (a 0), .ref (b 0), .ref hi, .ref sl]], (stW ty a r x y g)]) H := hP
    have hD : va_D A (fl [[la ty ot 1 (vp_updL of 0 (Int32.toInt64 (if w9 = 0 then r (27 + 3 * i9.toNatClampNeg) else if w9 = 1 then bz (r (28 + 3 * i9.toNatClampNeg)) else r (29 + 3 * i9.toNatClampNeg))))], [ob bc 8 [.ref tx, .ref (a 0), .ref (b 0), .ref hi, .ref sl]], (stW ty a r x y g)]) := hD
    refine lv_goto (tgt := 21) hx hb dL_alarm_10 (by decide) ?_
    refine lv_iconst (v := 0) hx hb dL_alarm_21 (by decide) ?_
    have hP : va_P D vwCl (fl [[la ty ot 1 (vp_updL of 0 (Int32.toInt64 (if w9 = 0 then r (27 + 3 * i9.toNatClampNeg) else if w9 = 1 then bz (r (28 + 3 * i9.toNatClampNeg)) else r (29 + 3 * i9.toNatClampNeg))))], [ob bc 8 [.ref tx, .ref (a 0), .ref (b 0), .ref hi, .ref sl]], (stW ty a r x y g)]) H := hP
    have hD : va_D A (fl [[la ty ot 1 (vp_updL of 0 (Int32.toInt64 (if w9 = 0 then r (27 + 3 * i9.toNatClampNeg) else if w9 = 1 then bz (r (28 + 3 * i9.toNatClampNeg)) else r (29 + 3 * i9.toNatClampNeg))))], [ob bc 8 [.ref tx, .ref (a 0), .ref (b 0), .ref hi, .ref sl]], (stW ty a r x y g)]) := hD
    exact end_i (bs' := (fun (_ : Unit) => [[la ty ot 1 (vp_updL of 0 (Int32.toInt64 (if w9 = 0 then r (27 + 3 * i9.toNatClampNeg) else if w9 = 1 then bz (r (28 + 3 * i9.toNatClampNeg)) else r (29 + 3 * i9.toNatClampNeg))))], [ob bc 8 [.ref tx, .ref (a 0), .ref (b 0), .ref hi, .ref sl]], (stW ty a r x y g)])) () hx hb hr hlocks hP hD hS (by first | rfl | decide | simp []) (Nat.le_of_ble_eq_true rfl) (Nat.le_of_ble_eq_true rfl) dL_alarm_22
set_option maxHeartbeats 4000000 in
set_option maxRecDepth 100000 in
theorem c_L_alarm_n0 (l : Launch) (D : va_G) (ty : Nat → ClassId) (i9 w9 : Int32) (bc tx hi sl : Nat) (b : Nat → Nat) (a : Nat → Nat) (r : Nat → Int32) (x y : Int64) (g : Nat → Nat → Int32) (ot : Nat) (of : Nat → Int64) (hst : l.stackTraces = false) (hc0 : ¬ (inI i9 4)) : CTi l yL_alarm wsL_alarm ({ frames := 8, cells := 2, slots := 12, locals := 126 }) D ty [.ref bc, .int i9, .int w9, .ref ot] [[la ty ot 1 of], [ob bc 8 [.ref tx, .ref (a 0), .ref (b 0), .ref hi, .ref sl]], (stW ty a r x y g)] (fun (RET : Int32) (_ : Unit) => RET = 1) (fun (_ : Unit) => [[la ty ot 1 of], [ob bc 8 [.ref tx, .ref (a 0), .ref (b 0), .ref hi, .ref sl]], (stW ty a r x y g)]) := by
  refine CTi_ofH cL_alarm 5 (some .int) [(0, 10, 13, 31), (0, 10, 17, 13)] (by decide) rfl (Nat.le_of_ble_eq_true rfl) ?_
  intro p e s m args below meth c A hx hb hr hml hown hlocks hin hts hA hX hK hP hD ht0 ls hl
  have hown : s.vm.findClass RL = some m.cls := hown
  have hS : va_S A s.heap s.heap [] := va_S.rf
  have hl : lv_has ls 5 [(0, .ref bc), (1, .int i9), (2, .int w9), (3, .ref ot)] := hl
  refine lv_aload_n hx hb dL_alarm_0 rfl (lv_at hl 3 rfl) ?_
  refine lv_iconst (v := 0) hx hb dL_alarm_1 (by decide) ?_
  refine lv_aload_n hx hb dL_alarm_2 rfl (lv_at hl 0 rfl) ?_
  refine lv_iload_n hx hb dL_alarm_3 rfl (lv_at hl 1 rfl) ?_
  refine lv_iload_n hx hb dL_alarm_4 rfl (lv_at hl 2 rfl) ?_
  refine cVxi (As := [.int i9, .int w9]) (rest := [.int 0, .ref ot]) ⟨hx, hb, hml, hown, hts⟩ (c_X9_alarm l D ty i9 w9 bc tx hi sl b a r x y g hst) (cwV 2 hts gL_alarm_X9_alarm rfl rfl rfl (by decide +kernel) ⟨Nat.le_of_ble_eq_true rfl, Nat.le_of_ble_eq_true rfl⟩) hK hX hP hD hS hA (pk (bs := [[la ty ot 1 of], [ob bc 8 [.ref tx, .ref (a 0), .ref (b 0), .ref hi, .ref sl]], (stW ty a r x y g)]) (bsc := [[ob bc 8 [.ref tx, .ref (a 0), .ref (b 0), .ref hi, .ref sl]], (stW ty a r x y g)]) (bsr := [[la ty ot 1 of]]) [1, 2] [0] 3 rfl (by decide +kernel) rfl rfl) (ci := 8) rfl 0 rfl rfl hl.1 rfl (Nat.le_of_ble_eq_true rfl) dL_alarm_5 ⟨Nat.le_of_ble_eq_true rfl, Nat.le_of_ble_eq_true rfl⟩ (fun E hE ce q9 H locs hP hD hS hce hcv hcl => ?_) (fun r9 u9 h9 H locs hP hD hS => ?_)
  · skip
    rcases hE with ⟨hEE, h0⟩ | ⟨hEE, k0, h1⟩
    · skip
      subst hEE
      have hP : va_P D vwCl (fl [[la ty ot 1 of], [ob bc 8 [.ref tx, .ref (a 0), .ref (b 0), .ref hi, .ref sl]], (stW ty a r x y g)]) H := P_perm (po (bs := [[ob bc 8 [.ref tx, .ref (a 0), .ref (b 0), .ref hi, .ref sl]], (stW ty a r x y g), [la ty ot 1 of]]) [2, 0, 1] 3 rfl (by decide +kernel) rfl) hP
      have hD : va_D A (fl [[la ty ot 1 of], [ob bc 8 [.ref tx, .ref (a 0), .ref (b 0), .ref hi, .ref sl]], (stW ty a r x y g)]) := D_perm (po (bs := [[ob bc 8 [.ref tx, .ref (a 0), .ref (b 0), .ref hi, .ref sl]], (stW ty a r x y g), [la ty ot 1 of]]) [2, 0, 1] 3 rfl (by decide +kernel) rfl) hD
      refine vx_catch (own := RL) (name := EIO) (E := EIO) hown [] ⟨0, 10, 13, 31⟩ [⟨0, 10, 17, 13⟩] (ht0.trans rfl) (fun z hz => by cases hz) (by decide) (by decide) (hts (Cond.classLink RL 31 "java/lang/IndexOutOfBoundsException") (List.mem_of_getElem? (i := 1) rfl)) (va_Nw.use rfl hX.1.2.2.1.2.2) hce hcv hcl ?_
      refine lv_astore (lv' := [(4, .ref q9), (0, .ref bc), (1, .int i9), (2, .int w9), (3, .ref ot)]) hx hb dL_alarm_13 hl (by decide) rfl (fun ls hl => ?_)
      refine lv_iconst (v := 1) hx hb dL_alarm_15 (by decide) ?_
      have hP : va_P D vwCl (fl [[la ty ot 1 of], [ob bc 8 [.ref tx, .ref (a 0), .ref (b 0), .ref hi, .ref sl]], (stW ty a r x y g)]) H := hP
      have hD : va_D A (fl [[la ty ot 1 of], [ob bc 8 [.ref tx, .ref (a 0), .ref (b 0), .ref hi, .ref sl]], (stW ty a r x y g)]) := hD
      exact end_i (bs' := (fun (_ : Unit) => [[la ty ot 1 of], [ob bc 8 [.ref tx, .ref (a 0), .ref (b 0), .ref hi, .ref sl]], (stW ty a r x y g)])) () hx hb hr hlocks hP hD hS (by first | rfl | decide | simp []) (Nat.le_of_ble_eq_true rfl) (Nat.le_of_ble_eq_true rfl) dL_alarm_16
    · skip
      exact absurd k0 hc0
  · exact absurd h9.2.1 hc0
