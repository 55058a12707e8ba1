set_option maxHeartbeats 4000000 in
set_option maxRecDepth 100000 in
theorem c_X10_eat (l : Launch) (D : va_G) (ty : Nat → ClassId) (b : Nat → Nat) (rf ac : Int32) (ln pos : Nat) (cd : Nat → Int32) (v9 : Int32) (hl6 : ln ≤ 60) (hp6 : pos < 2000) : CTi l yX10_eat wsX10_eat ({ frames := 0, cells := 0, slots := 0, locals := 0 }) D ty [.ref (b 0), .int v9] [[ob (b 0) 9 [.int rf, .ref (b 1), .int (nI ln), .int (nI pos), .ref (b 2), .ref (b 3), .ref (b 4), .ref (b 5), .int ac, .ref (b 6), .ref (b 7), .ref (b 8), .ref (b 9), .ref (b 10), .ref (b 11)]], [ia ty (b 1) 60 cd]] (fun (RET : Int32) (_ : Unit) => RET = (if eatQ cd ln pos v9 then 1 else 0)) (fun (_ : Unit) => [[ob (b 0) 9 [.int rf, .ref (b 1), .int (nI ln), .int (nI (if eatQ cd ln pos v9 then pos + 1 else pos)), .ref (b 2), .ref (b 3), .ref (b 4), .ref (b 5), .int ac, .ref (b 6), .ref (b 7), .ref (b 8), .ref (b 9), .ref (b 10), .ref (b 11)]], [ia ty (b 1) 60 cd]]) := by
  refine CTi_of cX10_eat 3 (some .boolean) (by decide) rfl (Nat.le_of_ble_eq_true rfl) ?_
  intro p e s m args below meth c A hx hb hr hml hown hlocks hin hts hA hX hK hP hD ls hl
  have hown : s.vm.findClass RX10 = some m.cls := hown
  have hS : va_S A s.heap s.heap [] := va_S.rf
  have i_X10 : ∀ z ∈ wsX100, z ∈ wsX10_eat := fun z h => List.mem_cons_of_mem _ (List.mem_append_right _ h)
  have hl : lv_has ls 3 [(0, .ref (b 0)), (1, .int v9)] := hl
  refine lv_aload_n hx hb dX10_eat_0 rfl (lv_at hl 0 rfl) ?_
  refine va_get (D := D) (ci := 9) (v := .int (nI pos)) (C := RX10) (T := TX10) (N := 15) hx hb hts i_X10 hown hK hP 0 rfl rfl 3 (by decide) (hts (Cond.fieldLink RX10 102 "BrownClockModel" "spot" "I") (List.mem_of_getElem? (i := 1) rfl)) (fun _ h9 => h9) rfl dX10_eat_1 ?_
  refine lv_aload_n hx hb dX10_eat_4 rfl (lv_at hl 0 rfl) ?_
  refine va_get (D := D) (ci := 9) (v := .int (nI ln)) (C := RX10) (T := TX10) (N := 15) hx hb hts i_X10 hown hK hP 0 rfl rfl 2 (by decide) (hts (Cond.fieldLink RX10 95 "BrownClockModel" "textSize" "I") (List.mem_of_getElem? (i := 2) rfl)) (fun _ h9 => h9) rfl dX10_eat_5 ?_
  refine lv_icmp_ge (tgt := 28) hx hb dX10_eat_8 (by decide) (fun c_1 => ?_) (fun c_1 => ?_)
  · skip
    refine lv_iconst (v := 0) hx hb dX10_eat_28 (by decide) ?_
    refine lv_istore_n (lv' := [(2, .int 0), (0, .ref (b 0)), (1, .int v9)]) hx hb dX10_eat_29 rfl hl (by decide) rfl (fun ls hl => ?_)
    refine lv_aload_n hx hb dX10_eat_30 rfl (lv_at hl 1 rfl) ?_
    refine lv_dup hx hb dX10_eat_31 rfl ?_
    refine va_get (D := D) (ci := 9) (v := .int (nI pos)) (C := RX10) (T := TX10) (N := 15) hx hb hts i_X10 hown hK hP 0 rfl rfl 3 (by decide) (hts (Cond.fieldLink RX10 102 "BrownClockModel" "spot" "I") (List.mem_of_getElem? (i := 1) rfl)) (fun _ h9 => h9) rfl dX10_eat_32 ?_
    refine lv_iload_n hx hb dX10_eat_35 rfl (lv_at hl 0 rfl) ?_
    refine lv_if_eq (tgt := 43) hx hb dX10_eat_36 (by decide) (fun c_2 => ?_) (fun c_2 => ?_)
    · skip
      refine lv_iconst (v := 0) hx hb dX10_eat_43 (by decide) ?_
      refine k_iadd (v := (nI pos)) hx hb dX10_eat_44 (Int32.add_zero _) ?_
      refine va_put (D := D) (ci := 9) (v := .int (nI pos)) (ty := .int) (C := RX10) (T := TX10) (N := 15) hx hb hts i_X10 tyX10 tyX10_ok nmX10 hown hK hP hD hS 0 rfl rfl 3 (by decide) (hts (Cond.fieldLink RX10 102 "BrownClockModel" "spot" "I") (List.mem_of_getElem? (i := 1) rfl)) (fun _ h9 => h9) rfl (by decide +kernel) rfl rfl (Nat.le_of_ble_eq_true rfl) dX10_eat_45 (fun H locs hP hD hS => ?_)
      have hP : va_P D vwCl (fl [[ob (b 0) 9 [.int rf, .ref (b 1), .int (nI ln), .int (nI pos), .ref (b 2), .ref (b 3), .ref (b 4), .ref (b 5), .int ac, .ref (b 6), .ref (b 7), .ref (b 8), .ref (b 9), .ref (b 10), .ref (b 11)]], [ia ty (b 1) 60 cd]]) H := hP
      have hD : va_D A (fl [[ob (b 0) 9 [.int rf, .ref (b 1), .int (nI ln), .int (nI pos), .ref (b 2), .ref (b 3), .ref (b 4), .ref (b 5), .int ac, .ref (b 6), .ref (b 7), .ref (b 8), .ref (b 9), .ref (b 10), .ref (b 11)]], [ia ty (b 1) 60 cd]]) := hD
      refine lv_iload_n hx hb dX10_eat_48 rfl (lv_at hl 0 rfl) ?_
      have hz8_0 := (nI_leI (a := ln) (b := pos) (by omega) (by omega)).mp c_1
      have hz36_1 := (nI_eq (a := 0) (b := 0) (by omega) (by omega)).mp c_2
      have hn : ¬ (eatQ cd ln pos v9) := fun q => absurd q.1 (by omega)
      have hP : va_P D vwCl (fl [[ob (b 0) 9 [.int rf, .ref (b 1), .int (nI ln), .int (nI (if eatQ cd ln pos v9 then pos + 1 else pos)), .ref (b 2), .ref (b 3), .ref (b 4), .ref (b 5), .int ac, .ref (b 6), .ref (b 7), .ref (b 8), .ref (b 9), .ref (b 10), .ref (b 11)]], [ia ty (b 1) 60 cd]]) H := by rw [if_neg hn]; exact hP
      have hD : va_D A (fl [[ob (b 0) 9 [.int rf, .ref (b 1), .int (nI ln), .int (nI (if eatQ cd ln pos v9 then pos + 1 else pos)), .ref (b 2), .ref (b 3), .ref (b 4), .ref (b 5), .int ac, .ref (b 6), .ref (b 7), .ref (b 8), .ref (b 9), .ref (b 10), .ref (b 11)]], [ia ty (b 1) 60 cd]]) := (D_same2 hD [(b 0), (b 1)] rfl rfl)
      exact end_z (bs' := (fun (_ : Unit) => [[ob (b 0) 9 [.int rf, .ref (b 1), .int (nI ln), .int (nI (if eatQ cd ln pos v9 then pos + 1 else pos)), .ref (b 2), .ref (b 3), .ref (b 4), .ref (b 5), .int ac, .ref (b 6), .ref (b 7), .ref (b 8), .ref (b 9), .ref (b 10), .ref (b 11)]], [ia ty (b 1) 60 cd]])) () hx hb hr hlocks rfl hP hD hS (if_neg hn).symm (Nat.le_of_ble_eq_true rfl) (Nat.le_of_ble_eq_true rfl) dX10_eat_49
    · exact absurd (by decide) c_2
  · skip
    have hz8_0 := nle_of (a := ln) (b := pos) (by omega) (by omega) c_1
    refine lv_aload_n hx hb dX10_eat_11 rfl (lv_at hl 0 rfl) ?_
    refine va_get (D := D) (ci := 9) (v := .ref (b 1)) (C := RX10) (T := TX10) (N := 15) hx hb hts i_X10 hown hK hP 0 rfl rfl 1 (by decide) (hts (Cond.fieldLink RX10 7 "BrownClockModel" "text" "[I") (List.mem_of_getElem? (i := 3) rfl)) (fun _ h9 => h9) rfl dX10_eat_12 ?_
    refine lv_aload_n hx hb dX10_eat_15 rfl (lv_at hl 0 rfl) ?_
    refine va_get (D := D) (ci := 9) (v := .int (nI pos)) (C := RX10) (T := TX10) (N := 15) hx hb hts i_X10 hown hK hP 0 rfl rfl 3 (by decide) (hts (Cond.fieldLink RX10 102 "BrownClockModel" "spot" "I") (List.mem_of_getElem? (i := 1) rfl)) (fun _ h9 => h9) rfl dX10_eat_16 ?_
    refine k_iald hx hb hK hP 1 rfl pos rfl (by omega) (Nat.le_of_ble_eq_true rfl) (v := cd pos) rfl dX10_eat_19 ?_
    refine lv_iload_n hx hb dX10_eat_20 rfl (lv_at hl 1 rfl) ?_
    refine lv_icmp_ne (tgt := 28) hx hb dX10_eat_21 (by decide) (fun c_3 => ?_) (fun c_3 => ?_)
    · skip
      refine lv_iconst (v := 0) hx hb dX10_eat_28 (by decide) ?_
      refine lv_istore_n (lv' := [(2, .int 0), (0, .ref (b 0)), (1, .int v9)]) hx hb dX10_eat_29 rfl hl (by decide) rfl (fun ls hl => ?_)
      refine lv_aload_n hx hb dX10_eat_30 rfl (lv_at hl 1 rfl) ?_
      refine lv_dup hx hb dX10_eat_31 rfl ?_
      refine va_get (D := D) (ci := 9) (v := .int (nI pos)) (C := RX10) (T := TX10) (N := 15) hx hb hts i_X10 hown hK hP 0 rfl rfl 3 (by decide) (hts (Cond.fieldLink RX10 102 "BrownClockModel" "spot" "I") (List.mem_of_getElem? (i := 1) rfl)) (fun _ h9 => h9) rfl dX10_eat_32 ?_
      refine lv_iload_n hx hb dX10_eat_35 rfl (lv_at hl 0 rfl) ?_
      refine lv_if_eq (tgt := 43) hx hb dX10_eat_36 (by decide) (fun c_4 => ?_) (fun c_4 => ?_)
      · skip
        refine lv_iconst (v := 0) hx hb dX10_eat_43 (by decide) ?_
        refine k_iadd (v := (nI pos)) hx hb dX10_eat_44 (Int32.add_zero _) ?_
        refine va_put (D := D) (ci := 9) (v := .int (nI pos)) (ty := .int) (C := RX10) (T := TX10) (N := 15) hx hb hts i_X10 tyX10 tyX10_ok nmX10 hown hK hP hD hS 0 rfl rfl 3 (by decide) (hts (Cond.fieldLink RX10 102 "BrownClockModel" "spot" "I") (List.mem_of_getElem? (i := 1) rfl)) (fun _ h9 => h9) rfl (by decide +kernel) rfl rfl (Nat.le_of_ble_eq_true rfl) dX10_eat_45 (fun H locs hP hD hS => ?_)
        have hP : va_P D vwCl (fl [[ob (b 0) 9 [.int rf, .ref (b 1), .int (nI ln), .int (nI pos), .ref (b 2), .ref (b 3), .ref (b 4), .ref (b 5), .int ac, .ref (b 6), .ref (b 7), .ref (b 8), .ref (b 9), .ref (b 10), .ref (b 11)]], [ia ty (b 1) 60 cd]]) H := hP
        have hD : va_D A (fl [[ob (b 0) 9 [.int rf, .ref (b 1), .int (nI ln), .int (nI pos), .ref (b 2), .ref (b 3), .ref (b 4), .ref (b 5), .int ac, .ref (b 6), .ref (b 7), .ref (b 8), .ref (b 9), .ref (b 10), .ref (b 11)]], [ia ty (b 1) 60 cd]]) := hD
        refine lv_iload_n hx hb dX10_eat_48 rfl (lv_at hl 0 rfl) ?_
        have hz8_0 := nle_of (a := ln) (b := pos) (by omega) (by omega) c_1
        have hz36_2 := (nI_eq (a := 0) (b := 0) (by omega) (by omega)).mp c_4
        have hn : ¬ (eatQ cd ln pos v9) := fun q => c_3 q.2
        have hP : va_P D vwCl (fl [[ob (b 0) 9 [.int rf, .ref (b 1), .int (nI ln), .int (nI (if eatQ cd ln pos v9 then pos + 1 else pos)), .ref (b 2), .ref (b 3), .ref (b 4), .ref (b 5), .int ac, .ref (b 6), .ref (b 7), .ref (b 8), .ref (b 9), .ref (b 10), .ref (b 11)]], [ia ty (b 1) 60 cd]]) H := by rw [if_neg hn]; exact hP
        have hD : va_D A (fl [[ob (b 0) 9 [.int rf, .ref (b 1), .int (nI ln), .int (nI (if eatQ cd ln pos v9 then pos + 1 else pos)), .ref (b 2), .ref (b 3), .ref (b 4), .ref (b 5), .int ac, .ref (b 6), .ref (b 7), .ref (b 8), .ref (b 9), .ref (b 10), .ref (b 11)]], [ia ty (b 1) 60 cd]]) := (D_same2 hD [(b 0), (b 1)] rfl rfl)
        exact end_z (bs' := (fun (_ : Unit) => [[ob (b 0) 9 [.int rf, .ref (b 1), .int (nI ln), .int (nI (if eatQ cd ln pos v9 then pos + 1 else pos)), .ref (b 2), .ref (b 3), .ref (b 4), .ref (b 5), .int ac, .ref (b 6), .ref (b 7), .ref (b 8), .ref (b 9), .ref (b 10), .ref (b 11)]], [ia ty (b 1) 60 cd]])) () hx hb hr hlocks rfl hP hD hS (if_neg hn).symm (Nat.le_of_ble_eq_true rfl) (Nat.le_of_ble_eq_true rfl) dX10_eat_49
      · exact absurd (by decide) c_4
    · skip
      refine lv_iconst (v := 1) hx hb dX10_eat_24 (by decide) ?_
      refine lv_goto (tgt := 29) hx hb dX10_eat_25 (by decide) ?_
      refine lv_istore_n (lv' := [(2, .int 1), (0, .ref (b 0)), (1, .int v9)]) hx hb dX10_eat_29 rfl hl (by decide) rfl (fun ls hl => ?_)
      refine lv_aload_n hx hb dX10_eat_30 rfl (lv_at hl 1 rfl) ?_
      refine lv_dup hx hb dX10_eat_31 rfl ?_
      refine va_get (D := D) (ci := 9) (v := .int (nI pos)) (C := RX10) (T := TX10) (N := 15) hx hb hts i_X10 hown hK hP 0 rfl rfl 3 (by decide) (hts (Cond.fieldLink RX10 102 "BrownClockModel" "spot" "I") (List.mem_of_getElem? (i := 1) rfl)) (fun _ h9 => h9) rfl dX10_eat_32 ?_
      refine lv_iload_n hx hb dX10_eat_35 rfl (lv_at hl 0 rfl) ?_
      refine lv_if_eq (tgt := 43) hx hb dX10_eat_36 (by decide) (fun c_5 => ?_) (fun c_5 => ?_)
      · exact absurd c_5 (by decide)
      · skip
        refine lv_iconst (v := 1) hx hb dX10_eat_39 (by decide) ?_
        refine lv_goto (tgt := 44) hx hb dX10_eat_40 (by decide) ?_
        refine k_iadd (v := (nI (pos + 1))) hx hb dX10_eat_44 (nI_add (pos) (1)) ?_
        refine va_put (D := D) (ci := 9) (v := .int (nI (pos + 1))) (ty := .int) (C := RX10) (T := TX10) (N := 15) hx hb hts i_X10 tyX10 tyX10_ok nmX10 hown hK hP hD hS 0 rfl rfl 3 (by decide) (hts (Cond.fieldLink RX10 102 "BrownClockModel" "spot" "I") (List.mem_of_getElem? (i := 1) rfl)) (fun _ h9 => h9) rfl (by decide +kernel) rfl rfl (Nat.le_of_ble_eq_true rfl) dX10_eat_45 (fun H locs hP hD hS => ?_)
        have hP : va_P D vwCl (fl [[ob (b 0) 9 [.int rf, .ref (b 1), .int (nI ln), .int (nI (pos + 1)), .ref (b 2), .ref (b 3), .ref (b 4), .ref (b 5), .int ac, .ref (b 6), .ref (b 7), .ref (b 8), .ref (b 9), .ref (b 10), .ref (b 11)]], [ia ty (b 1) 60 cd]]) H := hP
        have hD : va_D A (fl [[ob (b 0) 9 [.int rf, .ref (b 1), .int (nI ln), .int (nI (pos + 1)), .ref (b 2), .ref (b 3), .ref (b 4), .ref (b 5), .int ac, .ref (b 6), .ref (b 7), .ref (b 8), .ref (b 9), .ref (b 10), .ref (b 11)]], [ia ty (b 1) 60 cd]]) := hD
        refine lv_iload_n hx hb dX10_eat_48 rfl (lv_at hl 0 rfl) ?_
        have hz8_0 := nle_of (a := ln) (b := pos) (by omega) (by omega) c_1
        have hz36_2 := neq_of (a := 1) (b := 0) (by omega) (by omega) c_5
        have hn : eatQ cd ln pos v9 := ⟨by omega, c_3⟩
        have hP : va_P D vwCl (fl [[ob (b 0) 9 [.int rf, .ref (b 1), .int (nI ln), .int (nI (if eatQ cd ln pos v9 then pos + 1 else pos)), .ref (b 2), .ref (b 3), .ref (b 4), .ref (b 5), .int ac, .ref (b 6), .ref (b 7), .ref (b 8), .ref (b 9), .ref (b 10), .ref (b 11)]], [ia ty (b 1) 60 cd]]) H := by rw [if_pos hn]; exact hP
        have hD : va_D A (fl [[ob (b 0) 9 [.int rf, .ref (b 1), .int (nI ln), .int (nI (if eatQ cd ln pos v9 then pos + 1 else pos)), .ref (b 2), .ref (b 3), .ref (b 4), .ref (b 5), .int ac, .ref (b 6), .ref (b 7), .ref (b 8), .ref (b 9), .ref (b 10), .ref (b 11)]], [ia ty (b 1) 60 cd]]) := (D_same2 hD [(b 0), (b 1)] rfl rfl)
        exact end_z (bs' := (fun (_ : Unit) => [[ob (b 0) 9 [.int rf, .ref (b 1), .int (nI ln), .int (nI (if eatQ cd ln pos v9 then pos + 1 else pos)), .ref (b 2), .ref (b 3), .ref (b 4), .ref (b 5), .int ac, .ref (b 6), .ref (b 7), .ref (b 8), .ref (b 9), .ref (b 10), .ref (b 11)]], [ia ty (b 1) 60 cd]])) () hx hb hr hlocks rfl hP hD hS (if_pos hn).symm (Nat.le_of_ble_eq_true rfl) (Nat.le_of_ble_eq_true rfl) dX10_eat_49
