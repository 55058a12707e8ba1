set_option maxHeartbeats 4000000 in
set_option maxRecDepth 100000 in
theorem c_X9_needMain (l : Launch) (D : va_G) (ty : Nat → ClassId) (bc tx hi sl : Nat) (b : Nat → Nat) (a : Nat → Nat) (r : Nat → Int32) (x y : Int64) (g : Nat → Nat → Int32) (hst : l.stackTraces = false) : CXv l yX9_needMain wsX9_needMain ({ frames := 6, cells := 1, slots := 6, locals := 82 }) D ty [.ref bc] [[ob bc 8 [.ref tx, .ref (a 0), .ref (b 0), .ref hi, .ref sl]], (stW ty a r x y g)] [[ob bc 8 [.ref tx, .ref (a 0), .ref (b 0), .ref hi, .ref sl]], (stW ty a r x y g)] (fun (_ : Unit) => (pdom r = 0)) (fun (_ : Unit) => [[ob bc 8 [.ref tx, .ref (a 0), .ref (b 0), .ref hi, .ref sl]], (stW ty a r x y g)]) (fun E => (E = EIS ∧ ¬ (pdom r = 0))) := by
  refine CXv_of cX9_needMain 1 none (by decide) rfl (Nat.le_of_ble_eq_true rfl) ?_
  intro p e s m args below meth c A hx hb hr hml hown hlocks hin hts hA hX hK hP hD ht0 ls hl
  have hown : s.vm.findClass RX9 = some m.cls := hown
  have hS : va_S A s.heap s.heap [] := va_S.rf
  have i_X9 : ∀ z ∈ wsX90, z ∈ wsX9_needMain := fun z h => List.mem_cons_of_mem _ (List.mem_append_left _ (List.mem_append_left _ (List.mem_append_left _ (List.mem_append_right _ h))))
  have hl : lv_has ls 1 [(0, .ref bc)] := hl
  refine lv_aload_n hx hb dX9_needMain_0 rfl (lv_at hl 0 rfl) ?_
  refine va_get (D := D) (ci := 8) (v := .ref (a 0)) (C := RX9) (T := TX9) (N := 5) hx hb hts i_X9 hown hK hP 0 rfl rfl 1 (by decide) (hts (Cond.fieldLink RX9 19 "BrownClock" "state" "LBrownClock$State;") (List.mem_of_getElem? (i := 3) rfl)) (fun _ h9 => h9) rfl dX9_needMain_1 ?_
  refine cVi (As := []) (rest := []) ⟨hx, hb, hml, hown, hts⟩ (c_X5_isWritable l D ty a r x y g) (cwV 0 hts gX9_needMain_X5_isWritable rfl rfl rfl (by decide +kernel) ⟨Nat.le_of_ble_eq_true rfl, Nat.le_of_ble_eq_true rfl⟩) hK hX hP hD hS hA (pk (bs := [[ob bc 8 [.ref tx, .ref (a 0), .ref (b 0), .ref hi, .ref sl]], (stW ty a r x y g)]) (bsc := [(stW ty a r x y g)]) (bsr := [[ob bc 8 [.ref tx, .ref (a 0), .ref (b 0), .ref hi, .ref sl]]]) [1] [0] 2 rfl (by decide +kernel) rfl rfl) (ci := 4) rfl 0 rfl rfl hl.1 rfl (Nat.le_of_ble_eq_true rfl) dX9_needMain_4 ⟨Nat.le_of_ble_eq_true rfl, Nat.le_of_ble_eq_true rfl⟩ (fun r_2 u_1 h_3 H locs hP hD hS => ?_)
  have h_3 : r_2 = (if pdom r = 0 then 1 else 0) := h_3
  subst h_3
  have hP : va_P D vwCl (fl [[ob bc 8 [.ref tx, .ref (a 0), .ref (b 0), .ref hi, .ref sl]], (stW ty a r x y g)]) H := P_perm (po (bs := [(stW ty a r x y g), [ob bc 8 [.ref tx, .ref (a 0), .ref (b 0), .ref hi, .ref sl]]]) [1, 0] 2 rfl (by decide +kernel) rfl) hP
  have hD : va_D A (fl [[ob bc 8 [.ref tx, .ref (a 0), .ref (b 0), .ref hi, .ref sl]], (stW ty a r x y g)]) := D_perm (po (bs := [(stW ty a r x y g), [ob bc 8 [.ref tx, .ref (a 0), .ref (b 0), .ref hi, .ref sl]]]) [1, 0] 2 rfl (by decide +kernel) rfl) hD
  refine lv_if_ne (tgt := 21) hx hb dX9_needMain_7 (by decide) (fun c_4 => ?_) (fun c_4 => ?_)
  · skip
    have hP : va_P D vwCl (fl [[ob bc 8 [.ref tx, .ref (a 0), .ref (b 0), .ref hi, .ref sl]], (stW ty a r x y g)]) H := hP
    have hD : va_D A (fl [[ob bc 8 [.ref tx, .ref (a 0), .ref (b 0), .ref hi, .ref sl]], (stW ty a r x y g)]) := hD
    exact vx_ret (end_v (bs' := (fun (_ : Unit) => [[ob bc 8 [.ref tx, .ref (a 0), .ref (b 0), .ref hi, .ref sl]], (stW ty a r x y g)])) () hx hb hr hlocks hP hD hS (ite_y c_4) (Nat.le_of_ble_eq_true rfl) (Nat.le_of_ble_eq_true rfl) dX9_needMain_21)
  · skip
    obtain ⟨sa9, hsa9⟩ := hX.1.2.2.2.2.2.2.2.2.1
    exact vx_throwSW hx hb hst (own := RX9) (names := excN) (ik := 48) (is := 259) (ic := 52) (sa := sa9) hown (by decide +kernel) (by decide +kernel) (hts (Cond.classLink RX9 48 "java/lang/IllegalStateException") (List.mem_of_getElem? (i := 1) rfl)) (hts (Cond.initialized "java/lang/IllegalStateException") (List.mem_of_getElem? (i := 2) rfl)) hsa9 (vx_hat (B := exD EIS) (fun z hz => hts z (List.mem_cons_of_mem _ (List.mem_append_right _ hz))) (by decide +kernel) (exD_of hX.1 hX.1.2.2.1.2.1)) (by decide +kernel) hX.2.1 hX.2.2.1 hS (hl.1.trans hml.symm) dX9_needMain_10 dX9_needMain_13 dX9_needMain_14 dX9_needMain_17 dX9_needMain_20 (fun z hz => (ht0 z hz).elim) (Nat.le_of_ble_eq_true rfl) (Nat.le_of_ble_eq_true rfl) (Nat.le_of_ble_eq_true rfl) (Nat.le_of_ble_eq_true rfl) hlocks (fun t9 hv9 hz9 hk9 => exc_at ⟨rfl, (ite_n c_4)⟩ hP hD hS t9 hz9 hk9) hS.2.2 (Nat.le_of_ble_eq_true rfl) (Nat.le_of_ble_eq_true rfl)
