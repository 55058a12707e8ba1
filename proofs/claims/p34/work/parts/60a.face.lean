set_option maxHeartbeats 4000000 in
set_option maxRecDepth 100000 in
theorem c_X9_runScript1 (l : Launch) (D : va_G) (ty : Nat → ClassId) (wn : Nat) (bc tx hi sl : Nat) (b : Nat → Nat) (a : Nat → Nat) (r : Nat → Int32) (x y : Int64) (g : Nat → Nat → Int32) (r2 : Nat → Int32) (x2 y2 : Int64) (g2 : Nat → Nat → Int32) (hst : l.stackTraces = false) (hwn : wn < 2 ^ 63) (hp : Pw r) : CXi l yX9_runScript wsX9_runScript ({ frames := 7, cells := 2, slots := 12, locals := 152 }) D ty [.ref bc, .int 1, .long (lN wn)] [[ob bc 8 [.ref tx, .ref (a 0), .ref (b 0), .ref hi, .ref sl]], (stW ty a r x y g), (stW ty b r2 x2 y2 g2)] [[ob bc 8 [.ref tx, .ref (a 0), .ref (b 0), .ref hi, .ref sl]], (stW ty a r x y g), (stW ty b r2 x2 y2 g2)] (fun (RET : Int32) (_ : Unit) => RET = (scV 0 [wn % 100000] r) ∧ wn < 100000) (fun (_ : Unit) => [[ob bc 8 [.ref tx, .ref (a 0), .ref (b 0), .ref hi, .ref sl]], (stW ty a r x y g), (stW ty b (scR [wn % 100000] r) (scX [wn % 100000] r x) (scY [wn % 100000] r y) (scG [wn % 100000] r g))]) (fun E => E = EIA ∧ ¬ (wn < 100000)) := by
  refine CXi_of cX9_runScript 5 (some .int) (by decide) rfl (Nat.le_of_ble_eq_true rfl) ?_
  intro p e s m args below meth c A hx hb hr hml hown hlocks hin hts hA hX hK hP hD ht0 ls hl
  have hown : s.vm.findClass RX9 = some m.cls := hown
  have hS : va_S A s.heap s.heap [] := va_S.rf
  have i_X9 : ∀ z ∈ wsX90, z ∈ wsX9_runScript := fun z h => List.mem_cons_of_mem _ (List.mem_append_left _ (List.mem_append_left _ (List.mem_append_left _ (List.mem_append_left _ (List.mem_append_left _ (List.mem_append_left _ (List.mem_append_right _ h)))))))
  have hl : lv_has ls 5 [(0, .ref bc), (1, .int 1), (2, .long (lN wn))] := hl
  refine lv_iload_n hx hb dX9_runScript_0 rfl (lv_at hl 1 rfl) ?_
  refine lv_iconst (v := 1) hx hb dX9_runScript_1 (by decide) ?_
  refine lv_iconst (v := 3) hx hb dX9_runScript_2 (by decide) ?_
  refine cSxv (As := [.int 1, .int 1, .int 3]) (rest := []) ⟨hx, hb, hml, hown, hts⟩ (c_X9_needRange l D ty 1 1 3 hst) (va_cwS 3 hts gX9_runScript_X9_needRange rfl rfl rfl (by decide +kernel) ⟨Nat.le_of_ble_eq_true rfl, Nat.le_of_ble_eq_true rfl⟩) hK hX hP hD hS hA rfl hl.1 rfl (Nat.le_of_ble_eq_true rfl) dX9_runScript_3 ⟨Nat.le_of_ble_eq_true rfl, Nat.le_of_ble_eq_true rfl⟩ hlocks ht0 (Nat.le_of_ble_eq_true rfl) (Nat.le_of_ble_eq_true rfl) (fun E hE => absurd (show inR 1 1 3 from ⟨by decide, by decide⟩) hE.2) (fun h_3 H locs hP hD hS => ?_)
  refine lv_lload_n hx hb dX9_runScript_6 rfl (lv_at hl 2 rfl) ?_
  refine lv_lconst (v := 0) hx hb dX9_runScript_7 (by decide) ?_
  refine W.lcmp hx hb dX9_runScript_8 ?_
  refine lv_if_lt (tgt := 20) hx hb dX9_runScript_9 (by decide) (fun c_4 => ?_) (fun c_4 => ?_)
  · first | exact absurd c_4 (nneg hwn) | exact absurd (nneg hwn) c_4
  · skip
    refine lv_iload_n hx hb dX9_runScript_12 rfl (lv_at hl 1 rfl) ?_
    refine lv_lload_n hx hb dX9_runScript_13 rfl (lv_at hl 2 rfl) ?_
    refine cSi (As := [.int 1, .long (lN wn)]) (rest := []) ⟨hx, hb, hml, hown, hts⟩ (c_X3_fits1 l D ty (lN wn)) (va_cwS 2 hts gX9_runScript_X3_fits rfl rfl rfl (by decide +kernel) ⟨Nat.le_of_ble_eq_true rfl, Nat.le_of_ble_eq_true rfl⟩) hK hX hP hD hS hA (pk (bs := [[ob bc 8 [.ref tx, .ref (a 0), .ref (b 0), .ref hi, .ref sl]], (stW ty a r x y g), (stW ty b r2 x2 y2 g2)]) (bsc := []) (bsr := [[ob bc 8 [.ref tx, .ref (a 0), .ref (b 0), .ref hi, .ref sl]], (stW ty a r x y g), (stW ty b r2 x2 y2 g2)]) [] [0, 1, 2] 3 rfl (by decide +kernel) rfl rfl) rfl hl.1 rfl (Nat.le_of_ble_eq_true rfl) dX9_runScript_14 ⟨Nat.le_of_ble_eq_true rfl, Nat.le_of_ble_eq_true rfl⟩ (fun r_6 u_5 h_7 H locs hP hD hS => ?_)
    have h_7 : r_6 = (if lg_cmp ((lN wn) / 100000) 0 = 0 then 1 else 0) := h_7
    subst h_7
    have hP : va_P D vwCl (fl [[ob bc 8 [.ref tx, .ref (a 0), .ref (b 0), .ref hi, .ref sl]], (stW ty a r x y g), (stW ty b r2 x2 y2 g2)]) H := P_perm (po (bs := [[ob bc 8 [.ref tx, .ref (a 0), .ref (b 0), .ref hi, .ref sl]], (stW ty a r x y g), (stW ty b r2 x2 y2 g2)]) [0, 1, 2] 3 rfl (by decide +kernel) rfl) hP
    have hD : va_D A (fl [[ob bc 8 [.ref tx, .ref (a 0), .ref (b 0), .ref hi, .ref sl]], (stW ty a r x y g), (stW ty b r2 x2 y2 g2)]) := D_perm (po (bs := [[ob bc 8 [.ref tx, .ref (a 0), .ref (b 0), .ref hi, .ref sl]], (stW ty a r x y g), (stW ty b r2 x2 y2 g2)]) [0, 1, 2] 3 rfl (by decide +kernel) rfl) hD
    refine lv_if_ne (tgt := 30) hx hb dX9_runScript_17 (by decide) (fun c_8 => ?_) (fun c_8 => ?_)
    · skip
      refine lv_aload_n hx hb dX9_runScript_30 rfl (lv_at hl 0 rfl) ?_
      refine va_get (D := D) (ci := 8) (v := .ref (b 0)) (C := RX9) (T := TX9) (N := 5) hx hb hts i_X9 hown hK hP 0 rfl rfl 2 (by decide) (hts (Cond.fieldLink RX9 23 "BrownClock" "draft" "LBrownClock$State;") (List.mem_of_getElem? (i := 3) rfl)) (fun _ h9 => h9) rfl dX9_runScript_31 ?_
      refine lv_aload_n hx hb dX9_runScript_34 rfl (lv_at hl 0 rfl) ?_
      refine va_get (D := D) (ci := 8) (v := .ref (a 0)) (C := RX9) (T := TX9) (N := 5) hx hb hts i_X9 hown hK hP 0 rfl rfl 1 (by decide) (hts (Cond.fieldLink RX9 19 "BrownClock" "state" "LBrownClock$State;") (List.mem_of_getElem? (i := 4) rfl)) (fun _ h9 => h9) rfl dX9_runScript_35 ?_
      refine cVv (As := [.ref (a 0)]) (rest := []) ⟨hx, hb, hml, hown, hts⟩ (c_X5_copyFrom l D ty b r2 x2 y2 g2 a r x y g) (cwV 1 hts gX9_runScript_X5_copyFrom rfl rfl rfl (by decide +kernel) ⟨Nat.le_of_ble_eq_true rfl, Nat.le_of_ble_eq_true rfl⟩) hK hX hP hD hS hA (pk (bs := [[ob bc 8 [.ref tx, .ref (a 0), .ref (b 0), .ref hi, .ref sl]], (stW ty a r x y g), (stW ty b r2 x2 y2 g2)]) (bsc := [(stW ty b r2 x2 y2 g2), (stW ty a r x y g)]) (bsr := [[ob bc 8 [.ref tx, .ref (a 0), .ref (b 0), .ref hi, .ref sl]]]) [2, 1] [0] 3 rfl (by decide +kernel) rfl rfl) (ci := 4) rfl 0 rfl rfl hl.1 rfl (Nat.le_of_ble_eq_true rfl) dX9_runScript_38 ⟨Nat.le_of_ble_eq_true rfl, Nat.le_of_ble_eq_true rfl⟩ (fun u_9 h_11 H locs hP hD hS => ?_)
      have hP : va_P D vwCl (fl [[ob bc 8 [.ref tx, .ref (a 0), .ref (b 0), .ref hi, .ref sl]], (stW ty a r x y g), (stW ty b r x y g)]) H := P_perm (po (bs := [(stW ty b r x y g), (stW ty a r x y g), [ob bc 8 [.ref tx, .ref (a 0), .ref (b 0), .ref hi, .ref sl]]]) [2, 1, 0] 3 rfl (by decide +kernel) rfl) hP
      have hD : va_D A (fl [[ob bc 8 [.ref tx, .ref (a 0), .ref (b 0), .ref hi, .ref sl]], (stW ty a r x y g), (stW ty b r x y g)]) := D_perm (po (bs := [(stW ty b r x y g), (stW ty a r x y g), [ob bc 8 [.ref tx, .ref (a 0), .ref (b 0), .ref hi, .ref sl]]]) [2, 1, 0] 3 rfl (by decide +kernel) rfl) hD
      refine lv_iconst (v := 0) hx hb dX9_runScript_41 (by decide) ?_
      refine lv_istore (lv' := [(4, .int 0), (0, .ref bc), (1, .int 1), (2, .long (lN wn))]) hx hb dX9_runScript_42 hl (by decide) rfl (fun ls hl => ?_)
      refine lv_iload hx hb dX9_runScript_44 (lv_at hl 0 rfl) ?_
      refine lv_iload_n hx hb dX9_runScript_46 rfl (lv_at hl 2 rfl) ?_
      refine lv_icmp_ge (tgt := 76) hx hb dX9_runScript_47 (by decide) (fun c_12 => ?_) (fun c_12 => ?_)
      · exact absurd c_12 (by decide)
      · skip
        refine lv_aload_n hx hb dX9_runScript_50 rfl (lv_at hl 1 rfl) ?_
        refine va_get (D := D) (ci := 8) (v := .ref (b 0)) (C := RX9) (T := TX9) (N := 5) hx hb hts i_X9 hown hK hP 0 rfl rfl 2 (by decide) (hts (Cond.fieldLink RX9 23 "BrownClock" "draft" "LBrownClock$State;") (List.mem_of_getElem? (i := 3) rfl)) (fun _ h9 => h9) rfl dX9_runScript_51 ?_
        refine lv_iload_n hx hb dX9_runScript_54 rfl (lv_at hl 2 rfl) ?_
        refine lv_lload_n hx hb dX9_runScript_55 rfl (lv_at hl 3 rfl) ?_
        refine lv_iload hx hb dX9_runScript_56 (lv_at hl 0 rfl) ?_
        refine cSi (As := [.int 1, .long (lN wn), .int 0]) (rest := [.ref (b 0)]) ⟨hx, hb, hml, hown, hts⟩ (c_X3_command10 l D ty (lN wn)) (va_cwS 3 hts gX9_runScript_X3_command rfl rfl rfl (by decide +kernel) ⟨Nat.le_of_ble_eq_true rfl, Nat.le_of_ble_eq_true rfl⟩) hK hX hP hD hS hA (pk (bs := [[ob bc 8 [.ref tx, .ref (a 0), .ref (b 0), .ref hi, .ref sl]], (stW ty a r x y g), (stW ty b r x y g)]) (bsc := []) (bsr := [[ob bc 8 [.ref tx, .ref (a 0), .ref (b 0), .ref hi, .ref sl]], (stW ty a r x y g), (stW ty b r x y g)]) [] [0, 1, 2] 3 rfl (by decide +kernel) rfl rfl) rfl hl.1 rfl (Nat.le_of_ble_eq_true rfl) dX9_runScript_58 ⟨Nat.le_of_ble_eq_true rfl, Nat.le_of_ble_eq_true rfl⟩ (fun r_14 u_13 h_15 H locs hP hD hS => ?_)
        have h_15 : r_14 = (Int64.toInt32 (lrem64 (lN wn) 100000)) := h_15
        subst h_15
        have hP : va_P D vwCl (fl [[ob bc 8 [.ref tx, .ref (a 0), .ref (b 0), .ref hi, .ref sl]], (stW ty a r x y g), (stW ty b r x y g)]) H := P_perm (po (bs := [[ob bc 8 [.ref tx, .ref (a 0), .ref (b 0), .ref hi, .ref sl]], (stW ty a r x y g), (stW ty b r x y g)]) [0, 1, 2] 3 rfl (by decide +kernel) rfl) hP
        have hD : va_D A (fl [[ob bc 8 [.ref tx, .ref (a 0), .ref (b 0), .ref hi, .ref sl]], (stW ty a r x y g), (stW ty b r x y g)]) := D_perm (po (bs := [[ob bc 8 [.ref tx, .ref (a 0), .ref (b 0), .ref hi, .ref sl]], (stW ty a r x y g), (stW ty b r x y g)]) [0, 1, 2] 3 rfl (by decide +kernel) rfl) hD
        refine W.eq (g2 := F0 m 61 ls [.int (nI (wn % 100000)), .ref (b 0)]) (by rw [grp0 hwn]) ?_
        refine cSi (As := [.ref (b 0), .int (nI (wn % 100000))]) (rest := []) ⟨hx, hb, hml, hown, hts⟩ (c_X3_runs l D ty (wn % 100000) b r x y g (by omega) (hp.2.2) (hp.1.1)) (va_cwS 2 hts gX9_runScript_X3_runs rfl rfl rfl (by decide +kernel) ⟨Nat.le_of_ble_eq_true rfl, Nat.le_of_ble_eq_true rfl⟩) hK hX hP hD hS hA (pk (bs := [[ob bc 8 [.ref tx, .ref (a 0), .ref (b 0), .ref hi, .ref sl]], (stW ty a r x y g), (stW ty b r x y g)]) (bsc := [(stW ty b r x y g)]) (bsr := [[ob bc 8 [.ref tx, .ref (a 0), .ref (b 0), .ref hi, .ref sl]], (stW ty a r x y g)]) [2] [0, 1] 3 rfl (by decide +kernel) rfl rfl) rfl hl.1 rfl (Nat.le_of_ble_eq_true rfl) dX9_runScript_61 ⟨Nat.le_of_ble_eq_true rfl, Nat.le_of_ble_eq_true rfl⟩ (fun r_17 u_16 h_18 H locs hP hD hS => ?_)
        have h_18 : r_17 = (cmdOk (wn % 100000) r) := h_18
        subst h_18
        have hP : va_P D vwCl (fl [[ob bc 8 [.ref tx, .ref (a 0), .ref (b 0), .ref hi, .ref sl]], (stW ty a r x y g), (stW ty b (cmdR (wn % 100000) r) (minsX (cmdN (wn % 100000)) r x) (minsY (cmdN (wn % 100000)) r y) (cmdG (wn % 100000) r g))]) H := P_perm (po (bs := [(stW ty b (cmdR (wn % 100000) r) (minsX (cmdN (wn % 100000)) r x) (minsY (cmdN (wn % 100000)) r y) (cmdG (wn % 100000) r g)), [ob bc 8 [.ref tx, .ref (a 0), .ref (b 0), .ref hi, .ref sl]], (stW ty a r x y g)]) [1, 2, 0] 3 rfl (by decide +kernel) rfl) hP
        have hD : va_D A (fl [[ob bc 8 [.ref tx, .ref (a 0), .ref (b 0), .ref hi, .ref sl]], (stW ty a r x y g), (stW ty b (cmdR (wn % 100000) r) (minsX (cmdN (wn % 100000)) r x) (minsY (cmdN (wn % 100000)) r y) (cmdG (wn % 100000) r g))]) := D_perm (po (bs := [(stW ty b (cmdR (wn % 100000) r) (minsX (cmdN (wn % 100000)) r x) (minsY (cmdN (wn % 100000)) r y) (cmdG (wn % 100000) r g)), [ob bc 8 [.ref tx, .ref (a 0), .ref (b 0), .ref hi, .ref sl]], (stW ty a r x y g)]) [1, 2, 0] 3 rfl (by decide +kernel) rfl) hD
        refine lv_if_ne (tgt := 70) hx hb dX9_runScript_64 (by decide) (fun c_19 => ?_) (fun c_19 => ?_)
        · skip
          refine lv_iinc (v := 1) (lv' := [(4, .int 1), (0, .ref bc), (1, .int 1), (2, .long (lN wn))]) hx hb dX9_runScript_70 hl (k := 0) rfl (by decide) (by decide) rfl (fun ls hl => ?_)
          refine lv_goto (tgt := 44) hx hb dX9_runScript_73 (by decide) ?_
          refine lv_iload hx hb dX9_runScript_44 (lv_at hl 0 rfl) ?_
          refine lv_iload_n hx hb dX9_runScript_46 rfl (lv_at hl 2 rfl) ?_
          refine lv_icmp_ge (tgt := 76) hx hb dX9_runScript_47 (by decide) (fun c_20 => ?_) (fun c_20 => ?_)
          · skip
            refine lv_ldc hx hb hown (hts (Cond.constant RX9 63 (-99999999)) (List.mem_of_getElem? (i := 5) rfl)) dX9_runScript_76 ?_
            have f1 : scR [wn % 100000] r = (cmdR (wn % 100000) r) := (if_neg c_19)
            have f2 : scX [wn % 100000] r x = (minsX (cmdN (wn % 100000)) r x) := (if_neg c_19)
            have f3 : scY [wn % 100000] r y = (minsY (cmdN (wn % 100000)) r y) := (if_neg c_19)
            have f4 : scG [wn % 100000] r g = (cmdG (wn % 100000) r g) := (if_neg c_19)
            have hP : va_P D vwCl (fl [[ob bc 8 [.ref tx, .ref (a 0), .ref (b 0), .ref hi, .ref sl]], (stW ty a r x y g), (stW ty b (scR [wn % 100000] r) (scX [wn % 100000] r x) (scY [wn % 100000] r y) (scG [wn % 100000] r g))]) H := by rw [f1, f2, f3, f4]; exact hP
            have hD : va_D A (fl [[ob bc 8 [.ref tx, .ref (a 0), .ref (b 0), .ref hi, .ref sl]], (stW ty a r x y g), (stW ty b (scR [wn % 100000] r) (scX [wn % 100000] r x) (scY [wn % 100000] r y) (scG [wn % 100000] r g))]) := (D_same2 hD [bc, (a 0), (a 1), (a 2), (a 6), (a 3), (a 7), (a 8), (a 9), (a 10), (a 4), (a 5), (a 11), (a 12), (a 13), (a 14), (b 0), (b 1), (b 2), (b 6), (b 3), (b 7), (b 8), (b 9), (b 10), (b 4), (b 5), (b 11), (b 12), (b 13), (b 14)] rfl rfl)
            exact vx_ret (end_i (bs' := (fun (_ : Unit) => [[ob bc 8 [.ref tx, .ref (a 0), .ref (b 0), .ref hi, .ref sl]], (stW ty a r x y g), (stW ty b (scR [wn % 100000] r) (scX [wn % 100000] r x) (scY [wn % 100000] r y) (scG [wn % 100000] r g))])) () hx hb hr hlocks hP hD hS ⟨(show scV 0 [wn % 100000] r = _ from (if_neg c_19)).symm, (fit1 hwn).mp (ite_y c_8)⟩ (Nat.le_of_ble_eq_true rfl) (Nat.le_of_ble_eq_true rfl) dX9_runScript_78)
          · exact absurd (by decide) c_20
        · skip
          refine lv_iload hx hb dX9_runScript_67 (lv_at hl 0 rfl) ?_
          have f1 : scR [wn % 100000] r = (cmdR (wn % 100000) r) := (if_pos c_19)
          have f2 : scX [wn % 100000] r x = (minsX (cmdN (wn % 100000)) r x) := (if_pos c_19)
          have f3 : scY [wn % 100000] r y = (minsY (cmdN (wn % 100000)) r y) := (if_pos c_19)
          have f4 : scG [wn % 100000] r g = (cmdG (wn % 100000) r g) := (if_pos c_19)
          have hP : va_P D vwCl (fl [[ob bc 8 [.ref tx, .ref (a 0), .ref (b 0), .ref hi, .ref sl]], (stW ty a r x y g), (stW ty b (scR [wn % 100000] r) (scX [wn % 100000] r x) (scY [wn % 100000] r y) (scG [wn % 100000] r g))]) H := by rw [f1, f2, f3, f4]; exact hP
          have hD : va_D A (fl [[ob bc 8 [.ref tx, .ref (a 0), .ref (b 0), .ref hi, .ref sl]], (stW ty a r x y g), (stW ty b (scR [wn % 100000] r) (scX [wn % 100000] r x) (scY [wn % 100000] r y) (scG [wn % 100000] r g))]) := (D_same2 hD [bc, (a 0), (a 1), (a 2), (a 6), (a 3), (a 7), (a 8), (a 9), (a 10), (a 4), (a 5), (a 11), (a 12), (a 13), (a 14), (b 0), (b 1), (b 2), (b 6), (b 3), (b 7), (b 8), (b 9), (b 10), (b 4), (b 5), (b 11), (b 12), (b 13), (b 14)] rfl rfl)
          exact vx_ret (end_i (bs' := (fun (_ : Unit) => [[ob bc 8 [.ref tx, .ref (a 0), .ref (b 0), .ref hi, .ref sl]], (stW ty a r x y g), (stW ty b (scR [wn % 100000] r) (scX [wn % 100000] r x) (scY [wn % 100000] r y) (scG [wn % 100000] r g))])) () hx hb hr hlocks hP hD hS ⟨(show scV 0 [wn % 100000] r = _ from (if_pos c_19)).symm, (fit1 hwn).mp (ite_y c_8)⟩ (Nat.le_of_ble_eq_true rfl) (Nat.le_of_ble_eq_true rfl) dX9_runScript_69)
    · skip
      obtain ⟨sa9, hsa9⟩ := hX.1.2.2.2.2.2.2.2.2.2.2.1
      exact vx_throwS hx hb hst (own := RX9) (names := excN) (ik := 216) (is := 218) (ic := 220) (sa := sa9) hown (by decide +kernel) (by decide +kernel) (hts (Cond.classLink RX9 216 "java/lang/IllegalArgumentException") (List.mem_of_getElem? (i := 1) rfl)) (hts (Cond.initialized "java/lang/IllegalArgumentException") (List.mem_of_getElem? (i := 2) rfl)) hsa9 (vx_hat (B := exD EIA) (fun z hz => hts z (List.mem_cons_of_mem _ (List.mem_append_right _ hz))) (by decide +kernel) (exD_of hX.1 hX.1.2.2.1.1)) (by decide +kernel) hX.2.1 hX.2.2.1 hS (hl.1.trans hml.symm) dX9_runScript_20 dX9_runScript_23 dX9_runScript_24 dX9_runScript_26 dX9_runScript_29 (fun z hz => (ht0 z hz).elim) (Nat.le_of_ble_eq_true rfl) (Nat.le_of_ble_eq_true rfl) (Nat.le_of_ble_eq_true rfl) (Nat.le_of_ble_eq_true rfl) hlocks (fun t9 hv9 hz9 hk9 => exc_at ⟨rfl, fun q => ite_n c_8 ((fit1 hwn).mpr q)⟩ hP hD hS t9 hz9 hk9) hS.2.2 (Nat.le_of_ble_eq_true rfl) (Nat.le_of_ble_eq_true rfl)
