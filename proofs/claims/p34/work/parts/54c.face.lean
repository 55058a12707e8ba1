set_option maxHeartbeats 4000000 in
set_option maxRecDepth 100000 in
theorem c_X9_bestCorrection (l : Launch) (D : va_G) (ty : Nat → ClassId) (v9 : Int32) (bc tx hi sl : Nat) (b : Nat → Nat) (a : Nat → Nat) (r : Nat → Int32) (x y : Int64) (g : Nat → Nat → Int32) (hst : l.stackTraces = false) : CXi l yX9_bestCorrection wsX9_bestCorrection ({ frames := 7, cells := 1, slots := 6, locals := 104 }) D ty [.ref bc, .int v9] [[ob bc 8 [.ref tx, .ref (a 0), .ref (b 0), .ref hi, .ref sl]], (stW ty a r x y g)] [[ob bc 8 [.ref tx, .ref (a 0), .ref (b 0), .ref hi, .ref sl]], (stW ty a r x y g)] (fun (RET : Int32) (_ : Unit) => RET = (if deadW v9 r = 0 then bestL v9 r 500 1 0 else 0) ∧ (inR v9 1 600)) (fun (_ : Unit) => [[ob bc 8 [.ref tx, .ref (a 0), .ref (b 0), .ref hi, .ref sl]], (stW ty a r x y g)]) (fun E => (E = EIA ∧ ¬ (inR v9 1 600))) := by
  refine CXi_of cX9_bestCorrection 4 (some .int) (by decide) rfl (Nat.le_of_ble_eq_true rfl) ?_
  intro p e s m args below meth c A hx hb hr hml hown hlocks hin hts hA hX hK hP hD ht0 ls hl
  have hown : s.vm.findClass RX9 = some m.cls := hown
  have hS : va_S A s.heap s.heap [] := va_S.rf
  have i_X9 : ∀ z ∈ wsX90, z ∈ wsX9_bestCorrection := fun z h => List.mem_cons_of_mem _ (List.mem_append_left _ (List.mem_append_left _ (List.mem_append_left _ (List.mem_append_left _ (List.mem_append_right _ h)))))
  have hl : lv_has ls 4 [(0, .ref bc), (1, .int v9)] := hl
  refine lv_iload_n hx hb dX9_bestCorrection_0 rfl (lv_at hl 1 rfl) ?_
  refine lv_iconst (v := 1) hx hb dX9_bestCorrection_1 (by decide) ?_
  refine lv_sipush (v := 600) hx hb dX9_bestCorrection_2 (by decide) ?_
  refine cSxv (As := [.int v9, .int 1, .int 600]) (rest := []) ⟨hx, hb, hml, hown, hts⟩ (c_X9_needRange l D ty v9 1 600 hst) (va_cwS 3 hts gX9_bestCorrection_X9_needRange rfl rfl rfl (by decide +kernel) ⟨Nat.le_of_ble_eq_true rfl, Nat.le_of_ble_eq_true rfl⟩) hK hX hP hD hS hA rfl hl.1 rfl (Nat.le_of_ble_eq_true rfl) dX9_bestCorrection_5 ⟨Nat.le_of_ble_eq_true rfl, Nat.le_of_ble_eq_true rfl⟩ hlocks ht0 (Nat.le_of_ble_eq_true rfl) (Nat.le_of_ble_eq_true rfl) (fun E hE => ⟨hE.1, hE.2⟩) (fun h_3 H locs hP hD hS => ?_)
  refine lv_aload_n hx hb dX9_bestCorrection_8 rfl (lv_at hl 0 rfl) ?_
  refine va_get (D := D) (ci := 8) (v := .ref (a 0)) (C := RX9) (T := TX9) (N := 5) hx hb hts i_X9 hown hK hP 0 rfl rfl 1 (by decide) (hts (Cond.fieldLink RX9 19 "BrownClock" "state" "LBrownClock$State;") (List.mem_of_getElem? (i := 1) rfl)) (fun _ h9 => h9) rfl dX9_bestCorrection_9 ?_
  refine lv_iload_n hx hb dX9_bestCorrection_12 rfl (lv_at hl 1 rfl) ?_
  refine cVi (As := [.int v9]) (rest := []) ⟨hx, hb, hml, hown, hts⟩ (c_X5_isDeadWithin l D ty v9 a r x y g) (cwV 1 hts gX9_bestCorrection_X5_isDeadWithin rfl rfl rfl (by decide +kernel) ⟨Nat.le_of_ble_eq_true rfl, Nat.le_of_ble_eq_true rfl⟩) hK hX hP hD hS hA (pk (bs := [[ob bc 8 [.ref tx, .ref (a 0), .ref (b 0), .ref hi, .ref sl]], (stW ty a r x y g)]) (bsc := [(stW ty a r x y g)]) (bsr := [[ob bc 8 [.ref tx, .ref (a 0), .ref (b 0), .ref hi, .ref sl]]]) [1] [0] 2 rfl (by decide +kernel) rfl rfl) (ci := 4) rfl 0 rfl rfl hl.1 rfl (Nat.le_of_ble_eq_true rfl) dX9_bestCorrection_13 ⟨Nat.le_of_ble_eq_true rfl, Nat.le_of_ble_eq_true rfl⟩ (fun r_5 u_4 h_6 H locs hP hD hS => ?_)
  have h_6 : r_5 = (deadW v9 r) := h_6
  subst h_6
  have hP : va_P D vwCl (fl [[ob bc 8 [.ref tx, .ref (a 0), .ref (b 0), .ref hi, .ref sl]], (stW ty a r x y g)]) H := P_perm (po (bs := [(stW ty a r x y g), [ob bc 8 [.ref tx, .ref (a 0), .ref (b 0), .ref hi, .ref sl]]]) [1, 0] 2 rfl (by decide +kernel) rfl) hP
  have hD : va_D A (fl [[ob bc 8 [.ref tx, .ref (a 0), .ref (b 0), .ref hi, .ref sl]], (stW ty a r x y g)]) := D_perm (po (bs := [(stW ty a r x y g), [ob bc 8 [.ref tx, .ref (a 0), .ref (b 0), .ref hi, .ref sl]]]) [1, 0] 2 rfl (by decide +kernel) rfl) hD
  refine lv_if_eq (tgt := 21) hx hb dX9_bestCorrection_16 (by decide) (fun c_7 => ?_) (fun c_7 => ?_)
  · skip
    refine lv_iconst (v := 0) hx hb dX9_bestCorrection_21 (by decide) ?_
    refine lv_istore_n (lv' := [(2, .int 0), (0, .ref bc), (1, .int v9)]) hx hb dX9_bestCorrection_22 rfl hl (by decide) rfl (fun ls hl => ?_)
    refine lv_iconst (v := 1) hx hb dX9_bestCorrection_23 (by decide) ?_
    refine lv_istore_n (lv' := [(3, .int 1), (2, .int 0), (0, .ref bc), (1, .int v9)]) hx hb dX9_bestCorrection_24 rfl hl (by decide) rfl (fun ls hl => ?_)
    generalize hQg : vx_MQ below (va_Qi (fun (RET : Int32) (_ : Unit) => RET = (if deadW v9 r = 0 then bestL v9 r 500 1 0 else 0) ∧ (inR v9 1 600)) (PostW D (fun (_ : Unit) => [[ob bc 8 [.ref tx, .ref (a 0), .ref (b 0), .ref hi, .ref sl]], (stW ty a r x y g)]) A) A) (ExcX D [[ob bc 8 [.ref tx, .ref (a 0), .ref (b 0), .ref hi, .ref sl]], (stW ty a r x y g)] (fun E => (E = EIA ∧ ¬ (inR v9 1 600))) A) args s 1 6 A = Qg
    have lp : ∀ (n : Nat) (k9 : Nat) (b9 : Int32), (n + k9 = 502) → (k9 ≤ 501) → (bestL v9 r 500 1 0 = bestL v9 r (501 - k9) k9 b9) → ∀ (H : Heap) (locs : List Loc), va_P D vwCl (fl [[ob bc 8 [.ref tx, .ref (a 0), .ref (b 0), .ref hi, .ref sl]], (stW ty a r x y g)]) H → va_D A (fl [[ob bc 8 [.ref tx, .ref (a 0), .ref (b 0), .ref hi, .ref sl]], (stW ty a r x y g)]) → va_S A s.heap H locs → ∀ ls : Array Slot, lv_has ls 4 [(3, .int (nI k9)), (2, .int b9), (0, .ref bc), (1, .int v9)] → W p l e ({ frames := 7, cells := 1, slots := 6, locals := 104 } : Room) s m args below meth c H locs 1 6 Qg (F0 m 25 ls []) := by
      intro n
      induction n with
      | zero =>
        intro k9 b9 g1 g2 g6
        omega
      | succ n ih =>
        intro k9 b9 g1 g2 g6 H locs hP hD hS ls hl
        refine lv_iload_n hx hb dX9_bestCorrection_25 rfl (lv_at hl 0 rfl) ?_
        refine lv_sipush (v := 500) hx hb dX9_bestCorrection_26 (by decide) ?_
        refine lv_icmp_gt (tgt := 61) hx hb dX9_bestCorrection_29 (by decide) (fun c_8 => ?_) (fun c_8 => ?_)
        · skip
          refine lv_iload_n hx hb dX9_bestCorrection_61 rfl (lv_at hl 1 rfl) ?_
          subst hQg
          have hz29_1 := (nI_ltI (a := 500) (b := k9) (by omega) (by omega)).mp c_8
          have hP : va_P D vwCl (fl [[ob bc 8 [.ref tx, .ref (a 0), .ref (b 0), .ref hi, .ref sl]], (stW ty a r x y g)]) H := hP
          have hD : va_D A (fl [[ob bc 8 [.ref tx, .ref (a 0), .ref (b 0), .ref hi, .ref sl]], (stW ty a r x y g)]) := hD
          exact vx_ret (end_i (bs' := (fun (_ : Unit) => [[ob bc 8 [.ref tx, .ref (a 0), .ref (b 0), .ref hi, .ref sl]], (stW ty a r x y g)])) () hx hb hr hlocks hP hD hS ⟨((if_pos c_7).trans (best_end g6 (by omega))).symm, h_3⟩ (Nat.le_of_ble_eq_true rfl) (Nat.le_of_ble_eq_true rfl) dX9_bestCorrection_62)
        · skip
          have hz29_1 := nlt_of (a := 500) (b := k9) (by omega) (by omega) c_8
          refine lv_aload_n hx hb dX9_bestCorrection_32 rfl (lv_at hl 2 rfl) ?_
          refine va_get (D := D) (ci := 8) (v := .ref (a 0)) (C := RX9) (T := TX9) (N := 5) hx hb hts i_X9 hown hK hP 0 rfl rfl 1 (by decide) (hts (Cond.fieldLink RX9 19 "BrownClock" "state" "LBrownClock$State;") (List.mem_of_getElem? (i := 1) rfl)) (fun _ h9 => h9) rfl dX9_bestCorrection_33 ?_
          refine lv_iload_n hx hb dX9_bestCorrection_36 rfl (lv_at hl 3 rfl) ?_
          refine lv_iload_n hx hb dX9_bestCorrection_37 rfl (lv_at hl 1 rfl) ?_
          refine lv_iload_n hx hb dX9_bestCorrection_38 rfl (lv_at hl 0 rfl) ?_
          refine k_ineg (v := (-(nI k9))) hx hb dX9_bestCorrection_39 rfl ?_
          refine cVi (As := [.int v9, .int b9, .int (-(nI k9))]) (rest := []) ⟨hx, hb, hml, hown, hts⟩ (c_X5_nearer l D ty v9 b9 (-(nI k9)) a r x y g) (cwV 3 hts gX9_bestCorrection_X5_nearer rfl rfl rfl (by decide +kernel) ⟨Nat.le_of_ble_eq_true rfl, Nat.le_of_ble_eq_true rfl⟩) hK hX hP hD hS hA (pk (bs := [[ob bc 8 [.ref tx, .ref (a 0), .ref (b 0), .ref hi, .ref sl]], (stW ty a r x y g)]) (bsc := [(stW ty a r x y g)]) (bsr := [[ob bc 8 [.ref tx, .ref (a 0), .ref (b 0), .ref hi, .ref sl]]]) [1] [0] 2 rfl (by decide +kernel) rfl rfl) (ci := 4) rfl 0 rfl rfl hl.1 rfl (Nat.le_of_ble_eq_true rfl) dX9_bestCorrection_40 ⟨Nat.le_of_ble_eq_true rfl, Nat.le_of_ble_eq_true rfl⟩ (fun r_10 u_9 h_11 H locs hP hD hS => ?_)
          have h_11 : r_10 = (nearv v9 b9 (-(nI k9)) r) := h_11
          subst h_11
          have hP : va_P D vwCl (fl [[ob bc 8 [.ref tx, .ref (a 0), .ref (b 0), .ref hi, .ref sl]], (stW ty a r x y g)]) H := P_perm (po (bs := [(stW ty a r x y g), [ob bc 8 [.ref tx, .ref (a 0), .ref (b 0), .ref hi, .ref sl]]]) [1, 0] 2 rfl (by decide +kernel) rfl) hP
          have hD : va_D A (fl [[ob bc 8 [.ref tx, .ref (a 0), .ref (b 0), .ref hi, .ref sl]], (stW ty a r x y g)]) := D_perm (po (bs := [(stW ty a r x y g), [ob bc 8 [.ref tx, .ref (a 0), .ref (b 0), .ref hi, .ref sl]]]) [1, 0] 2 rfl (by decide +kernel) rfl) hD
          refine lv_istore_n (lv' := [(2, .int (nearv v9 b9 (-(nI k9)) r)), (3, .int (nI k9)), (0, .ref bc), (1, .int v9)]) hx hb dX9_bestCorrection_43 rfl hl (by decide) rfl (fun ls hl => ?_)
          refine lv_aload_n hx hb dX9_bestCorrection_44 rfl (lv_at hl 2 rfl) ?_
          refine va_get (D := D) (ci := 8) (v := .ref (a 0)) (C := RX9) (T := TX9) (N := 5) hx hb hts i_X9 hown hK hP 0 rfl rfl 1 (by decide) (hts (Cond.fieldLink RX9 19 "BrownClock" "state" "LBrownClock$State;") (List.mem_of_getElem? (i := 1) rfl)) (fun _ h9 => h9) rfl dX9_bestCorrection_45 ?_
          refine lv_iload_n hx hb dX9_bestCorrection_48 rfl (lv_at hl 3 rfl) ?_
          refine lv_iload_n hx hb dX9_bestCorrection_49 rfl (lv_at hl 0 rfl) ?_
          refine lv_iload_n hx hb dX9_bestCorrection_50 rfl (lv_at hl 1 rfl) ?_
          refine cVi (As := [.int v9, .int (nearv v9 b9 (-(nI k9)) r), .int (nI k9)]) (rest := []) ⟨hx, hb, hml, hown, hts⟩ (c_X5_nearer l D ty v9 (nearv v9 b9 (-(nI k9)) r) (nI k9) a r x y g) (cwV 3 hts gX9_bestCorrection_X5_nearer rfl rfl rfl (by decide +kernel) ⟨Nat.le_of_ble_eq_true rfl, Nat.le_of_ble_eq_true rfl⟩) hK hX hP hD hS hA (pk (bs := [[ob bc 8 [.ref tx, .ref (a 0), .ref (b 0), .ref hi, .ref sl]], (stW ty a r x y g)]) (bsc := [(stW ty a r x y g)]) (bsr := [[ob bc 8 [.ref tx, .ref (a 0), .ref (b 0), .ref hi, .ref sl]]]) [1] [0] 2 rfl (by decide +kernel) rfl rfl) (ci := 4) rfl 0 rfl rfl hl.1 rfl (Nat.le_of_ble_eq_true rfl) dX9_bestCorrection_51 ⟨Nat.le_of_ble_eq_true rfl, Nat.le_of_ble_eq_true rfl⟩ (fun r_13 u_12 h_14 H locs hP hD hS => ?_)
          have h_14 : r_13 = (nearv v9 (nearv v9 b9 (-(nI k9)) r) (nI k9) r) := h_14
          subst h_14
          have hP : va_P D vwCl (fl [[ob bc 8 [.ref tx, .ref (a 0), .ref (b 0), .ref hi, .ref sl]], (stW ty a r x y g)]) H := P_perm (po (bs := [(stW ty a r x y g), [ob bc 8 [.ref tx, .ref (a 0), .ref (b 0), .ref hi, .ref sl]]]) [1, 0] 2 rfl (by decide +kernel) rfl) hP
          have hD : va_D A (fl [[ob bc 8 [.ref tx, .ref (a 0), .ref (b 0), .ref hi, .ref sl]], (stW ty a r x y g)]) := D_perm (po (bs := [(stW ty a r x y g), [ob bc 8 [.ref tx, .ref (a 0), .ref (b 0), .ref hi, .ref sl]]]) [1, 0] 2 rfl (by decide +kernel) rfl) hD
          refine lv_istore_n (lv' := [(2, .int (nearv v9 (nearv v9 b9 (-(nI k9)) r) (nI k9) r)), (3, .int (nI k9)), (0, .ref bc), (1, .int v9)]) hx hb dX9_bestCorrection_54 rfl hl (by decide) rfl (fun ls hl => ?_)
          refine lv_iinc (v := (nI (k9 + 1))) (lv' := [(3, .int (nI (k9 + 1))), (2, .int (nearv v9 (nearv v9 b9 (-(nI k9)) r) (nI k9) r)), (0, .ref bc), (1, .int v9)]) hx hb dX9_bestCorrection_55 hl (k := 1) rfl (nI_add (k9) (1)) (by decide) rfl (fun ls hl => ?_)
          refine lv_goto (tgt := 25) hx hb dX9_bestCorrection_58 (by decide) ?_
          exact ih (k9 + 1) (nearv v9 (nearv v9 b9 (-(nI k9)) r) (nI k9) r) (by omega) (by omega) (best_step g6 (by omega)) _ _ (show va_P D vwCl (fl [[ob bc 8 [.ref tx, .ref (a 0), .ref (b 0), .ref hi, .ref sl]], (stW ty a r x y g)]) _ from hP) hD hS _ (lv_sub hl [0, 1, 2, 3] rfl)
    exact lp 501 1 0 (rfl) (by decide) (rfl) _ _ (show va_P D vwCl (fl [[ob bc 8 [.ref tx, .ref (a 0), .ref (b 0), .ref hi, .ref sl]], (stW ty a r x y g)]) _ from hP) hD hS _ (lv_sub hl [0, 1, 2, 3] rfl)
  · skip
    refine lv_iconst (v := 0) hx hb dX9_bestCorrection_19 (by decide) ?_
    have hP : va_P D vwCl (fl [[ob bc 8 [.ref tx, .ref (a 0), .ref (b 0), .ref hi, .ref sl]], (stW ty a r x y g)]) H := hP
    have hD : va_D A (fl [[ob bc 8 [.ref tx, .ref (a 0), .ref (b 0), .ref hi, .ref sl]], (stW ty a r x y g)]) := hD
    exact vx_ret (end_i (bs' := (fun (_ : Unit) => [[ob bc 8 [.ref tx, .ref (a 0), .ref (b 0), .ref hi, .ref sl]], (stW ty a r x y g)])) () hx hb hr hlocks hP hD hS ⟨(if_neg c_7).symm, h_3⟩ (Nat.le_of_ble_eq_true rfl) (Nat.le_of_ble_eq_true rfl) dX9_bestCorrection_20)
