set_option maxHeartbeats 4000000 in
set_option maxRecDepth 100000 in
theorem c_X10_number1 (l : Launch) (D : va_G) (ty : Nat → ClassId) (b : Nat → Nat) (rf ac : Int32) (ln pos : Nat) (cd : Nat → Int32) (hi9 : Nat) (hl6 : ln ≤ 60) (hp6 : pos < 1000) (hh9 : hi9 < 100000) : CTi l yX10_number wsX10_number ({ frames := 1, cells := 0, slots := 0, locals := 25 }) D ty [.ref (b 0), .int 1, .int (nI hi9)] [[ob (b 0) 9 [.int rf, .ref (b 1), .int (nI ln), .int (nI pos), .ref (b 2), .ref (b 3), .ref (b 4), .ref (b 5), .int ac, .ref (b 6), .ref (b 7), .ref (b 8), .ref (b 9), .ref (b 10), .ref (b 11)]], [ia ty (b 1) 60 cd]] (fun (RET : Int32) (_ : Unit) => RET = (onV (numV cd ln [1] hi9 0 pos))) (fun (_ : Unit) => [[ob (b 0) 9 [.int rf, .ref (b 1), .int (nI ln), .int (nI (numP cd ln [1] hi9 0 pos)), .ref (b 2), .ref (b 3), .ref (b 4), .ref (b 5), .int ac, .ref (b 6), .ref (b 7), .ref (b 8), .ref (b 9), .ref (b 10), .ref (b 11)]], [ia ty (b 1) 60 cd]]) := by
  refine CTi_of cX10_number 6 (some .int) (by decide) rfl (Nat.le_of_ble_eq_true rfl) ?_
  intro p e s m args below meth c A hx hb hr hml hown hlocks hin hts hA hX hK hP hD ls hl
  have hown : s.vm.findClass RX10 = some m.cls := hown
  have hS : va_S A s.heap s.heap [] := va_S.rf
  have i_X10 : ∀ z ∈ wsX100, z ∈ wsX10_number := fun z h => List.mem_cons_of_mem _ (List.mem_append_right _ h)
  have hl : lv_has ls 6 [(0, .ref (b 0)), (1, .int 1), (2, .int (nI hi9))] := hl
  refine lv_iload_n hx hb dX10_number_0 rfl (lv_at hl 1 rfl) ?_
  refine lv_iconst (v := 4) hx hb dX10_number_1 (by decide) ?_
  refine lv_icmp_ne (tgt := 11) hx hb dX10_number_2 (by decide) (fun c_1 => ?_) (fun c_1 => ?_)
  · skip
    refine lv_iload_n hx hb dX10_number_11 rfl (lv_at hl 1 rfl) ?_
    refine lv_iconst (v := 3) hx hb dX10_number_12 (by decide) ?_
    refine lv_icmp_ne (tgt := 21) hx hb dX10_number_13 (by decide) (fun c_2 => ?_) (fun c_2 => ?_)
    · skip
      refine lv_iload_n hx hb dX10_number_21 rfl (lv_at hl 1 rfl) ?_
      refine lv_iconst (v := 2) hx hb dX10_number_22 (by decide) ?_
      refine lv_icmp_ne (tgt := 31) hx hb dX10_number_23 (by decide) (fun c_3 => ?_) (fun c_3 => ?_)
      · skip
        refine lv_iconst (v := 1) hx hb dX10_number_31 (by decide) ?_
        refine lv_istore_n (lv' := [(3, .int 1), (0, .ref (b 0)), (1, .int 1), (2, .int (nI hi9))]) hx hb dX10_number_32 rfl hl (by decide) rfl (fun ls hl => ?_)
        refine lv_iconst (v := 0) hx hb dX10_number_33 (by decide) ?_
        refine lv_istore (lv' := [(4, .int 0), (3, .int 1), (0, .ref (b 0)), (1, .int 1), (2, .int (nI hi9))]) hx hb dX10_number_34 hl (by decide) rfl (fun ls hl => ?_)
        refine lv_iload_n hx hb dX10_number_36 rfl (lv_at hl 1 rfl) ?_
        refine lv_if_le (tgt := 123) hx hb dX10_number_37 (by decide) (fun c_4 => ?_) (fun c_4 => ?_)
        · exact absurd c_4 (by decide)
        · skip
          refine lv_aload_n hx hb dX10_number_40 rfl (lv_at hl 2 rfl) ?_
          refine va_get (D := D) (ci := 9) (v := .int (nI pos)) (C := RX10) (T := TX10) (N := 15) hx hb hts i_X10 hown hK hP 0 rfl rfl 3 (by decide) (hts (Cond.fieldLink RX10 102 "BrownClockModel" "spot" "I") (List.mem_of_getElem? (i := 1) rfl)) (fun _ h9 => h9) rfl dX10_number_41 ?_
          refine lv_aload_n hx hb dX10_number_44 rfl (lv_at hl 2 rfl) ?_
          refine va_get (D := D) (ci := 9) (v := .int (nI ln)) (C := RX10) (T := TX10) (N := 15) hx hb hts i_X10 hown hK hP 0 rfl rfl 2 (by decide) (hts (Cond.fieldLink RX10 95 "BrownClockModel" "textSize" "I") (List.mem_of_getElem? (i := 2) rfl)) (fun _ h9 => h9) rfl dX10_number_45 ?_
          refine lv_icmp_ge (tgt := 66) hx hb dX10_number_48 (by decide) (fun c_5 => ?_) (fun c_5 => ?_)
          · skip
            refine lv_iconst (v := (-1)) hx hb dX10_number_66 (by decide) ?_
            have hz2_0 := neq_of (a := 1) (b := 4) (by omega) (by omega) c_1
            have hz13_1 := neq_of (a := 1) (b := 3) (by omega) (by omega) c_2
            have hz23_2 := neq_of (a := 1) (b := 2) (by omega) (by omega) c_3
            have hz37_3 := nle_of (a := 1) (b := 0) (by omega) (by omega) c_4
            have hz48_4 := (nI_leI (a := ln) (b := pos) (by omega) (by omega)).mp c_5
            have hd_n0 : ¬ isDig cd ln pos := fun q => absurd q.1 (by omega)
            refine lv_istore (lv' := [(5, .int (-1)), (4, .int 0), (3, .int 1), (0, .ref (b 0)), (1, .int 1), (2, .int (nI hi9))]) hx hb dX10_number_67 hl (by decide) rfl (fun ls hl => ?_)
            refine lv_iload hx hb dX10_number_69 (lv_at hl 0 rfl) ?_
            refine lv_i2l (v := (-1)) hx hb dX10_number_71 (by decide) ?_
            refine lv_lconst (v := 0) hx hb dX10_number_72 (by decide) ?_
            refine lv_ldc2 hx hb hown (hts (Cond.constantLong RX10 105 (9)) (List.mem_of_getElem? (i := 4) rfl)) dX10_number_73 ?_
            refine cSi (As := [.long (-1), .long 0, .long 9]) (rest := []) ⟨hx, hb, hml, hown, hts⟩ (c_X10_in l D ty (-1) 0 9) (va_cwS 3 hts gX10_number_X10_in rfl rfl rfl (by decide +kernel) ⟨Nat.le_of_ble_eq_true rfl, Nat.le_of_ble_eq_true rfl⟩) hK hX hP hD hS hA (pk (bs := [[ob (b 0) 9 [.int rf, .ref (b 1), .int (nI ln), .int (nI pos), .ref (b 2), .ref (b 3), .ref (b 4), .ref (b 5), .int ac, .ref (b 6), .ref (b 7), .ref (b 8), .ref (b 9), .ref (b 10), .ref (b 11)]], [ia ty (b 1) 60 cd]]) (bsc := []) (bsr := [[ob (b 0) 9 [.int rf, .ref (b 1), .int (nI ln), .int (nI pos), .ref (b 2), .ref (b 3), .ref (b 4), .ref (b 5), .int ac, .ref (b 6), .ref (b 7), .ref (b 8), .ref (b 9), .ref (b 10), .ref (b 11)]], [ia ty (b 1) 60 cd]]) [] [0, 1] 2 rfl (by decide +kernel) rfl rfl) rfl hl.1 rfl (Nat.le_of_ble_eq_true rfl) dX10_number_76 ⟨Nat.le_of_ble_eq_true rfl, Nat.le_of_ble_eq_true rfl⟩ (fun r_7 u_6 h_8 H locs hP hD hS => ?_)
            have h_8 : r_7 = (inv (-1) 0 9) := h_8
            subst h_8
            have hP : va_P D vwCl (fl [[ob (b 0) 9 [.int rf, .ref (b 1), .int (nI ln), .int (nI pos), .ref (b 2), .ref (b 3), .ref (b 4), .ref (b 5), .int ac, .ref (b 6), .ref (b 7), .ref (b 8), .ref (b 9), .ref (b 10), .ref (b 11)]], [ia ty (b 1) 60 cd]]) H := P_perm (po (bs := [[ob (b 0) 9 [.int rf, .ref (b 1), .int (nI ln), .int (nI pos), .ref (b 2), .ref (b 3), .ref (b 4), .ref (b 5), .int ac, .ref (b 6), .ref (b 7), .ref (b 8), .ref (b 9), .ref (b 10), .ref (b 11)]], [ia ty (b 1) 60 cd]]) [0, 1] 2 rfl (by decide +kernel) rfl) hP
            have hD : va_D A (fl [[ob (b 0) 9 [.int rf, .ref (b 1), .int (nI ln), .int (nI pos), .ref (b 2), .ref (b 3), .ref (b 4), .ref (b 5), .int ac, .ref (b 6), .ref (b 7), .ref (b 8), .ref (b 9), .ref (b 10), .ref (b 11)]], [ia ty (b 1) 60 cd]]) := D_perm (po (bs := [[ob (b 0) 9 [.int rf, .ref (b 1), .int (nI ln), .int (nI pos), .ref (b 2), .ref (b 3), .ref (b 4), .ref (b 5), .int ac, .ref (b 6), .ref (b 7), .ref (b 8), .ref (b 9), .ref (b 10), .ref (b 11)]], [ia ty (b 1) 60 cd]]) [0, 1] 2 rfl (by decide +kernel) rfl) hD
            refine lv_if_eq (tgt := 93) hx hb dX10_number_79 (by decide) (fun c_9 => ?_) (fun c_9 => ?_)
            · skip
              refine lv_ldc hx hb hown (hts (Cond.constant RX10 53 (-99999999)) (List.mem_of_getElem? (i := 5) rfl)) dX10_number_93 ?_
              have hz2_0 := neq_of (a := 1) (b := 4) (by omega) (by omega) c_1
              have hz13_1 := neq_of (a := 1) (b := 3) (by omega) (by omega) c_2
              have hz23_2 := neq_of (a := 1) (b := 2) (by omega) (by omega) c_3
              have hz37_3 := nle_of (a := 1) (b := 0) (by omega) (by omega) c_4
              have hz48_4 := (nI_leI (a := ln) (b := pos) (by omega) (by omega)).mp c_5
              have hv1 : numV cd ln [1] hi9 0 pos = _ := (numV_n (fun q => by first | exact hd_n0 q.1 | omega)).1
              have hv2 : numP cd ln [1] hi9 0 pos = _ := (numV_n (fun q => by first | exact hd_n0 q.1 | omega)).2
              have hP : va_P D vwCl (fl [[ob (b 0) 9 [.int rf, .ref (b 1), .int (nI ln), .int (nI (numP cd ln [1] hi9 0 pos)), .ref (b 2), .ref (b 3), .ref (b 4), .ref (b 5), .int ac, .ref (b 6), .ref (b 7), .ref (b 8), .ref (b 9), .ref (b 10), .ref (b 11)]], [ia ty (b 1) 60 cd]]) H := by rw [hv2]; exact hP
              have hD : va_D A (fl [[ob (b 0) 9 [.int rf, .ref (b 1), .int (nI ln), .int (nI (numP cd ln [1] hi9 0 pos)), .ref (b 2), .ref (b 3), .ref (b 4), .ref (b 5), .int ac, .ref (b 6), .ref (b 7), .ref (b 8), .ref (b 9), .ref (b 10), .ref (b 11)]], [ia ty (b 1) 60 cd]]) := (D_same2 hD [(b 0), (b 1)] rfl rfl)
              exact end_i (bs' := (fun (_ : Unit) => [[ob (b 0) 9 [.int rf, .ref (b 1), .int (nI ln), .int (nI (numP cd ln [1] hi9 0 pos)), .ref (b 2), .ref (b 3), .ref (b 4), .ref (b 5), .int ac, .ref (b 6), .ref (b 7), .ref (b 8), .ref (b 9), .ref (b 10), .ref (b 11)]], [ia ty (b 1) 60 cd]])) () hx hb hr hlocks hP hD hS (by rw [hv1]; rfl) (Nat.le_of_ble_eq_true rfl) (Nat.le_of_ble_eq_true rfl) dX10_number_95
            · first | exact absurd c_9 (by decide +kernel) | exact absurd (by decide +kernel) c_9
          · skip
            have hz2_0 := neq_of (a := 1) (b := 4) (by omega) (by omega) c_1
            have hz13_1 := neq_of (a := 1) (b := 3) (by omega) (by omega) c_2
            have hz23_2 := neq_of (a := 1) (b := 2) (by omega) (by omega) c_3
            have hz37_3 := nle_of (a := 1) (b := 0) (by omega) (by omega) c_4
            have hz48_4 := nle_of (a := ln) (b := pos) (by omega) (by omega) c_5
            refine lv_aload_n hx hb dX10_number_51 rfl (lv_at hl 2 rfl) ?_
            refine va_get (D := D) (ci := 9) (v := .ref (b 1)) (C := RX10) (T := TX10) (N := 15) hx hb hts i_X10 hown hK hP 0 rfl rfl 1 (by decide) (hts (Cond.fieldLink RX10 7 "BrownClockModel" "text" "[I") (List.mem_of_getElem? (i := 3) rfl)) (fun _ h9 => h9) rfl dX10_number_52 ?_
            refine lv_aload_n hx hb dX10_number_55 rfl (lv_at hl 2 rfl) ?_
            refine va_get (D := D) (ci := 9) (v := .int (nI pos)) (C := RX10) (T := TX10) (N := 15) hx hb hts i_X10 hown hK hP 0 rfl rfl 3 (by decide) (hts (Cond.fieldLink RX10 102 "BrownClockModel" "spot" "I") (List.mem_of_getElem? (i := 1) rfl)) (fun _ h9 => h9) rfl dX10_number_56 ?_
            refine k_iald hx hb hK hP 1 rfl pos rfl (by omega) (Nat.le_of_ble_eq_true rfl) (v := cd pos) rfl dX10_number_59 ?_
            refine lv_bipush (v := 48) hx hb dX10_number_60 (by decide) ?_
            refine k_isub (v := ((cd pos) - 48)) hx hb dX10_number_62 rfl ?_
            refine lv_goto (tgt := 67) hx hb dX10_number_63 (by decide) ?_
            have hz2_0 := neq_of (a := 1) (b := 4) (by omega) (by omega) c_1
            have hz13_1 := neq_of (a := 1) (b := 3) (by omega) (by omega) c_2
            have hz23_2 := neq_of (a := 1) (b := 2) (by omega) (by omega) c_3
            have hz37_3 := nle_of (a := 1) (b := 0) (by omega) (by omega) c_4
            have hz48_4 := nle_of (a := ln) (b := pos) (by omega) (by omega) c_5
            rcases Classical.em (isDig cd ln pos) with hd_0 | hd_0
            · have hd9_0 := (dig_nI hd_0).2
              refine W.eq (g2 := F0 m 67 ls [.int (nI (digN cd pos))]) (by rw [(dig_nI hd_0).1]) ?_
              refine lv_istore (lv' := [(5, .int (nI (digN cd pos))), (4, .int 0), (3, .int 1), (0, .ref (b 0)), (1, .int 1), (2, .int (nI hi9))]) hx hb dX10_number_67 hl (by decide) rfl (fun ls hl => ?_)
              refine lv_iload hx hb dX10_number_69 (lv_at hl 0 rfl) ?_
              refine lv_i2l (v := (Int32.toInt64 (nI (digN cd pos)))) hx hb dX10_number_71 rfl ?_
              refine lv_lconst (v := 0) hx hb dX10_number_72 (by decide) ?_
              refine lv_ldc2 hx hb hown (hts (Cond.constantLong RX10 105 (9)) (List.mem_of_getElem? (i := 4) rfl)) dX10_number_73 ?_
              refine cSi (As := [.long (Int32.toInt64 (nI (digN cd pos))), .long 0, .long 9]) (rest := []) ⟨hx, hb, hml, hown, hts⟩ (c_X10_in l D ty (Int32.toInt64 (nI (digN cd pos))) 0 9) (va_cwS 3 hts gX10_number_X10_in rfl rfl rfl (by decide +kernel) ⟨Nat.le_of_ble_eq_true rfl, Nat.le_of_ble_eq_true rfl⟩) hK hX hP hD hS hA (pk (bs := [[ob (b 0) 9 [.int rf, .ref (b 1), .int (nI ln), .int (nI pos), .ref (b 2), .ref (b 3), .ref (b 4), .ref (b 5), .int ac, .ref (b 6), .ref (b 7), .ref (b 8), .ref (b 9), .ref (b 10), .ref (b 11)]], [ia ty (b 1) 60 cd]]) (bsc := []) (bsr := [[ob (b 0) 9 [.int rf, .ref (b 1), .int (nI ln), .int (nI pos), .ref (b 2), .ref (b 3), .ref (b 4), .ref (b 5), .int ac, .ref (b 6), .ref (b 7), .ref (b 8), .ref (b 9), .ref (b 10), .ref (b 11)]], [ia ty (b 1) 60 cd]]) [] [0, 1] 2 rfl (by decide +kernel) rfl rfl) rfl hl.1 rfl (Nat.le_of_ble_eq_true rfl) dX10_number_76 ⟨Nat.le_of_ble_eq_true rfl, Nat.le_of_ble_eq_true rfl⟩ (fun r_11 u_10 h_12 H locs hP hD hS => ?_)
              have h_12 : r_11 = (inv (Int32.toInt64 (nI (digN cd pos))) 0 9) := h_12
              subst h_12
              have hP : va_P D vwCl (fl [[ob (b 0) 9 [.int rf, .ref (b 1), .int (nI ln), .int (nI pos), .ref (b 2), .ref (b 3), .ref (b 4), .ref (b 5), .int ac, .ref (b 6), .ref (b 7), .ref (b 8), .ref (b 9), .ref (b 10), .ref (b 11)]], [ia ty (b 1) 60 cd]]) H := P_perm (po (bs := [[ob (b 0) 9 [.int rf, .ref (b 1), .int (nI ln), .int (nI pos), .ref (b 2), .ref (b 3), .ref (b 4), .ref (b 5), .int ac, .ref (b 6), .ref (b 7), .ref (b 8), .ref (b 9), .ref (b 10), .ref (b 11)]], [ia ty (b 1) 60 cd]]) [0, 1] 2 rfl (by decide +kernel) rfl) hP
              have hD : va_D A (fl [[ob (b 0) 9 [.int rf, .ref (b 1), .int (nI ln), .int (nI pos), .ref (b 2), .ref (b 3), .ref (b 4), .ref (b 5), .int ac, .ref (b 6), .ref (b 7), .ref (b 8), .ref (b 9), .ref (b 10), .ref (b 11)]], [ia ty (b 1) 60 cd]]) := D_perm (po (bs := [[ob (b 0) 9 [.int rf, .ref (b 1), .int (nI ln), .int (nI pos), .ref (b 2), .ref (b 3), .ref (b 4), .ref (b 5), .int ac, .ref (b 6), .ref (b 7), .ref (b 8), .ref (b 9), .ref (b 10), .ref (b 11)]], [ia ty (b 1) 60 cd]]) [0, 1] 2 rfl (by decide +kernel) rfl) hD
              refine lv_if_eq (tgt := 93) hx hb dX10_number_79 (by decide) (fun c_13 => ?_) (fun c_13 => ?_)
              · first | exact absurd c_13 (inv_d hd9_0) | exact absurd (inv_d hd9_0) c_13
              · skip
                refine lv_iload hx hb dX10_number_82 (lv_at hl 1 rfl) ?_
                refine lv_iload hx hb dX10_number_84 (lv_at hl 0 rfl) ?_
                refine lv_iload_n hx hb dX10_number_86 rfl (lv_at hl 2 rfl) ?_
                refine k_imul (v := (nI (digN cd pos * 1))) hx hb dX10_number_87 (nI_mul (digN cd pos) (1)) ?_
                refine k_iadd (v := (nI (0 + digN cd pos * 1))) hx hb dX10_number_88 (nI_add (0) (digN cd pos * 1)) ?_
                refine lv_iload_n hx hb dX10_number_89 rfl (lv_at hl 5 rfl) ?_
                refine lv_icmp_le (tgt := 96) hx hb dX10_number_90 (by decide) (fun c_14 => ?_) (fun c_14 => ?_)
                · skip
                  refine lv_iload hx hb dX10_number_96 (lv_at hl 1 rfl) ?_
                  refine lv_iload hx hb dX10_number_98 (lv_at hl 0 rfl) ?_
                  refine lv_iload_n hx hb dX10_number_100 rfl (lv_at hl 2 rfl) ?_
                  refine k_imul (v := (nI (digN cd pos * 1))) hx hb dX10_number_101 (nI_mul (digN cd pos) (1)) ?_
                  refine k_iadd (v := (nI (0 + digN cd pos * 1))) hx hb dX10_number_102 (nI_add (0) (digN cd pos * 1)) ?_
                  refine lv_istore (lv' := [(4, .int (nI (0 + digN cd pos * 1))), (5, .int (nI (digN cd pos))), (3, .int 1), (0, .ref (b 0)), (1, .int 1), (2, .int (nI hi9))]) hx hb dX10_number_103 hl (by decide) rfl (fun ls hl => ?_)
                  refine lv_iload_n hx hb dX10_number_105 rfl (lv_at hl 2 rfl) ?_
                  refine lv_bipush (v := 10) hx hb dX10_number_106 (by decide) ?_
                  refine k_idiv (v := 0) hx hb dX10_number_108 (by decide) (by decide) ?_
                  refine lv_istore_n (lv' := [(3, .int 0), (4, .int (nI (0 + digN cd pos * 1))), (5, .int (nI (digN cd pos))), (0, .ref (b 0)), (1, .int 1), (2, .int (nI hi9))]) hx hb dX10_number_109 rfl hl (by decide) rfl (fun ls hl => ?_)
                  refine lv_aload_n hx hb dX10_number_110 rfl (lv_at hl 3 rfl) ?_
                  refine lv_dup hx hb dX10_number_111 rfl ?_
                  refine va_get (D := D) (ci := 9) (v := .int (nI pos)) (C := RX10) (T := TX10) (N := 15) hx hb hts i_X10 hown hK hP 0 rfl rfl 3 (by decide) (hts (Cond.fieldLink RX10 102 "BrownClockModel" "spot" "I") (List.mem_of_getElem? (i := 1) rfl)) (fun _ h9 => h9) rfl dX10_number_112 ?_
                  refine lv_iconst (v := 1) hx hb dX10_number_115 (by decide) ?_
                  refine k_iadd (v := (nI (pos + 1))) hx hb dX10_number_116 (nI_add (pos) (1)) ?_
                  refine va_put (D := D) (ci := 9) (v := .int (nI (pos + 1))) (ty := .int) (C := RX10) (T := TX10) (N := 15) hx hb hts i_X10 tyX10 tyX10_ok nmX10 hown hK hP hD hS 0 rfl rfl 3 (by decide) (hts (Cond.fieldLink RX10 102 "BrownClockModel" "spot" "I") (List.mem_of_getElem? (i := 1) rfl)) (fun _ h9 => h9) rfl (by decide +kernel) rfl rfl (Nat.le_of_ble_eq_true rfl) dX10_number_117 (fun H locs hP hD hS => ?_)
                  have hP : va_P D vwCl (fl [[ob (b 0) 9 [.int rf, .ref (b 1), .int (nI ln), .int (nI (pos + 1)), .ref (b 2), .ref (b 3), .ref (b 4), .ref (b 5), .int ac, .ref (b 6), .ref (b 7), .ref (b 8), .ref (b 9), .ref (b 10), .ref (b 11)]], [ia ty (b 1) 60 cd]]) H := hP
                  have hD : va_D A (fl [[ob (b 0) 9 [.int rf, .ref (b 1), .int (nI ln), .int (nI (pos + 1)), .ref (b 2), .ref (b 3), .ref (b 4), .ref (b 5), .int ac, .ref (b 6), .ref (b 7), .ref (b 8), .ref (b 9), .ref (b 10), .ref (b 11)]], [ia ty (b 1) 60 cd]]) := hD
                  refine lv_goto (tgt := 36) hx hb dX10_number_120 (by decide) ?_
                  refine lv_iload_n hx hb dX10_number_36 rfl (lv_at hl 0 rfl) ?_
                  refine lv_if_le (tgt := 123) hx hb dX10_number_37 (by decide) (fun c_15 => ?_) (fun c_15 => ?_)
                  · skip
                    refine lv_iload hx hb dX10_number_123 (lv_at hl 1 rfl) ?_
                    have hz2_0 := neq_of (a := 1) (b := 4) (by omega) (by omega) c_1
                    have hz13_1 := neq_of (a := 1) (b := 3) (by omega) (by omega) c_2
                    have hz23_2 := neq_of (a := 1) (b := 2) (by omega) (by omega) c_3
                    have hz37_3 := nle_of (a := 1) (b := 0) (by omega) (by omega) c_4
                    have hz48_4 := nle_of (a := ln) (b := pos) (by omega) (by omega) c_5
                    have hz90_6 := (nI_leI (a := 0 + digN cd pos * 1) (b := hi9) (by omega) (by omega)).mp c_14
                    have hz37_7 := (nI_leI (a := 0) (b := 0) (by omega) (by omega)).mp c_15
                    have hv1 : numV cd ln [1] hi9 0 pos = _ := (numV_y ⟨hd_0, by omega⟩).1
                    have hv2 : numP cd ln [1] hi9 0 pos = _ := (numV_y ⟨hd_0, by omega⟩).2
                    have hP : va_P D vwCl (fl [[ob (b 0) 9 [.int rf, .ref (b 1), .int (nI ln), .int (nI (numP cd ln [1] hi9 0 pos)), .ref (b 2), .ref (b 3), .ref (b 4), .ref (b 5), .int ac, .ref (b 6), .ref (b 7), .ref (b 8), .ref (b 9), .ref (b 10), .ref (b 11)]], [ia ty (b 1) 60 cd]]) H := by rw [hv2]; exact hP
                    have hD : va_D A (fl [[ob (b 0) 9 [.int rf, .ref (b 1), .int (nI ln), .int (nI (numP cd ln [1] hi9 0 pos)), .ref (b 2), .ref (b 3), .ref (b 4), .ref (b 5), .int ac, .ref (b 6), .ref (b 7), .ref (b 8), .ref (b 9), .ref (b 10), .ref (b 11)]], [ia ty (b 1) 60 cd]]) := (D_same2 hD [(b 0), (b 1)] rfl rfl)
                    exact end_i (bs' := (fun (_ : Unit) => [[ob (b 0) 9 [.int rf, .ref (b 1), .int (nI ln), .int (nI (numP cd ln [1] hi9 0 pos)), .ref (b 2), .ref (b 3), .ref (b 4), .ref (b 5), .int ac, .ref (b 6), .ref (b 7), .ref (b 8), .ref (b 9), .ref (b 10), .ref (b 11)]], [ia ty (b 1) 60 cd]])) () hx hb hr hlocks hP hD hS (by rw [hv1]; rfl) (Nat.le_of_ble_eq_true rfl) (Nat.le_of_ble_eq_true rfl) dX10_number_125
                  · exact absurd (by decide) c_15
                · skip
                  refine lv_ldc hx hb hown (hts (Cond.constant RX10 53 (-99999999)) (List.mem_of_getElem? (i := 5) rfl)) dX10_number_93 ?_
                  have hz2_0 := neq_of (a := 1) (b := 4) (by omega) (by omega) c_1
                  have hz13_1 := neq_of (a := 1) (b := 3) (by omega) (by omega) c_2
                  have hz23_2 := neq_of (a := 1) (b := 2) (by omega) (by omega) c_3
                  have hz37_3 := nle_of (a := 1) (b := 0) (by omega) (by omega) c_4
                  have hz48_4 := nle_of (a := ln) (b := pos) (by omega) (by omega) c_5
                  have hz90_6 := nle_of (a := 0 + digN cd pos * 1) (b := hi9) (by omega) (by omega) c_14
                  have hv1 : numV cd ln [1] hi9 0 pos = _ := (numV_n (fun q => by first | exact hd_0 q.1 | omega)).1
                  have hv2 : numP cd ln [1] hi9 0 pos = _ := (numV_n (fun q => by first | exact hd_0 q.1 | omega)).2
                  have hP : va_P D vwCl (fl [[ob (b 0) 9 [.int rf, .ref (b 1), .int (nI ln), .int (nI (numP cd ln [1] hi9 0 pos)), .ref (b 2), .ref (b 3), .ref (b 4), .ref (b 5), .int ac, .ref (b 6), .ref (b 7), .ref (b 8), .ref (b 9), .ref (b 10), .ref (b 11)]], [ia ty (b 1) 60 cd]]) H := by rw [hv2]; exact hP
                  have hD : va_D A (fl [[ob (b 0) 9 [.int rf, .ref (b 1), .int (nI ln), .int (nI (numP cd ln [1] hi9 0 pos)), .ref (b 2), .ref (b 3), .ref (b 4), .ref (b 5), .int ac, .ref (b 6), .ref (b 7), .ref (b 8), .ref (b 9), .ref (b 10), .ref (b 11)]], [ia ty (b 1) 60 cd]]) := (D_same2 hD [(b 0), (b 1)] rfl rfl)
                  exact end_i (bs' := (fun (_ : Unit) => [[ob (b 0) 9 [.int rf, .ref (b 1), .int (nI ln), .int (nI (numP cd ln [1] hi9 0 pos)), .ref (b 2), .ref (b 3), .ref (b 4), .ref (b 5), .int ac, .ref (b 6), .ref (b 7), .ref (b 8), .ref (b 9), .ref (b 10), .ref (b 11)]], [ia ty (b 1) 60 cd]])) () hx hb hr hlocks hP hD hS (by rw [hv1]; rfl) (Nat.le_of_ble_eq_true rfl) (Nat.le_of_ble_eq_true rfl) dX10_number_95
            · have hiv := inv_nd (by omega) hd_0
              refine lv_istore (lv' := [(5, .int ((cd pos) - 48)), (4, .int 0), (3, .int 1), (0, .ref (b 0)), (1, .int 1), (2, .int (nI hi9))]) hx hb dX10_number_67 hl (by decide) rfl (fun ls hl => ?_)
              refine lv_iload hx hb dX10_number_69 (lv_at hl 0 rfl) ?_
              refine lv_i2l (v := (Int32.toInt64 ((cd pos) - 48))) hx hb dX10_number_71 rfl ?_
              refine lv_lconst (v := 0) hx hb dX10_number_72 (by decide) ?_
              refine lv_ldc2 hx hb hown (hts (Cond.constantLong RX10 105 (9)) (List.mem_of_getElem? (i := 4) rfl)) dX10_number_73 ?_
              refine cSi (As := [.long (Int32.toInt64 ((cd pos) - 48)), .long 0, .long 9]) (rest := []) ⟨hx, hb, hml, hown, hts⟩ (c_X10_in l D ty (Int32.toInt64 ((cd pos) - 48)) 0 9) (va_cwS 3 hts gX10_number_X10_in rfl rfl rfl (by decide +kernel) ⟨Nat.le_of_ble_eq_true rfl, Nat.le_of_ble_eq_true rfl⟩) hK hX hP hD hS hA (pk (bs := [[ob (b 0) 9 [.int rf, .ref (b 1), .int (nI ln), .int (nI pos), .ref (b 2), .ref (b 3), .ref (b 4), .ref (b 5), .int ac, .ref (b 6), .ref (b 7), .ref (b 8), .ref (b 9), .ref (b 10), .ref (b 11)]], [ia ty (b 1) 60 cd]]) (bsc := []) (bsr := [[ob (b 0) 9 [.int rf, .ref (b 1), .int (nI ln), .int (nI pos), .ref (b 2), .ref (b 3), .ref (b 4), .ref (b 5), .int ac, .ref (b 6), .ref (b 7), .ref (b 8), .ref (b 9), .ref (b 10), .ref (b 11)]], [ia ty (b 1) 60 cd]]) [] [0, 1] 2 rfl (by decide +kernel) rfl rfl) rfl hl.1 rfl (Nat.le_of_ble_eq_true rfl) dX10_number_76 ⟨Nat.le_of_ble_eq_true rfl, Nat.le_of_ble_eq_true rfl⟩ (fun r_17 u_16 h_18 H locs hP hD hS => ?_)
              have h_18 : r_17 = (inv (Int32.toInt64 ((cd pos) - 48)) 0 9) := h_18
              subst h_18
              have hP : va_P D vwCl (fl [[ob (b 0) 9 [.int rf, .ref (b 1), .int (nI ln), .int (nI pos), .ref (b 2), .ref (b 3), .ref (b 4), .ref (b 5), .int ac, .ref (b 6), .ref (b 7), .ref (b 8), .ref (b 9), .ref (b 10), .ref (b 11)]], [ia ty (b 1) 60 cd]]) H := P_perm (po (bs := [[ob (b 0) 9 [.int rf, .ref (b 1), .int (nI ln), .int (nI pos), .ref (b 2), .ref (b 3), .ref (b 4), .ref (b 5), .int ac, .ref (b 6), .ref (b 7), .ref (b 8), .ref (b 9), .ref (b 10), .ref (b 11)]], [ia ty (b 1) 60 cd]]) [0, 1] 2 rfl (by decide +kernel) rfl) hP
              have hD : va_D A (fl [[ob (b 0) 9 [.int rf, .ref (b 1), .int (nI ln), .int (nI pos), .ref (b 2), .ref (b 3), .ref (b 4), .ref (b 5), .int ac, .ref (b 6), .ref (b 7), .ref (b 8), .ref (b 9), .ref (b 10), .ref (b 11)]], [ia ty (b 1) 60 cd]]) := D_perm (po (bs := [[ob (b 0) 9 [.int rf, .ref (b 1), .int (nI ln), .int (nI pos), .ref (b 2), .ref (b 3), .ref (b 4), .ref (b 5), .int ac, .ref (b 6), .ref (b 7), .ref (b 8), .ref (b 9), .ref (b 10), .ref (b 11)]], [ia ty (b 1) 60 cd]]) [0, 1] 2 rfl (by decide +kernel) rfl) hD
              refine lv_if_eq (tgt := 93) hx hb dX10_number_79 (by decide) (fun c_19 => ?_) (fun c_19 => ?_)
              · skip
                refine lv_ldc hx hb hown (hts (Cond.constant RX10 53 (-99999999)) (List.mem_of_getElem? (i := 5) rfl)) dX10_number_93 ?_
                have hz2_0 := neq_of (a := 1) (b := 4) (by omega) (by omega) c_1
                have hz13_1 := neq_of (a := 1) (b := 3) (by omega) (by omega) c_2
                have hz23_2 := neq_of (a := 1) (b := 2) (by omega) (by omega) c_3
                have hz37_3 := nle_of (a := 1) (b := 0) (by omega) (by omega) c_4
                have hz48_4 := nle_of (a := ln) (b := pos) (by omega) (by omega) c_5
                have hv1 : numV cd ln [1] hi9 0 pos = _ := (numV_n (fun q => by first | exact hd_0 q.1 | omega)).1
                have hv2 : numP cd ln [1] hi9 0 pos = _ := (numV_n (fun q => by first | exact hd_0 q.1 | omega)).2
                have hP : va_P D vwCl (fl [[ob (b 0) 9 [.int rf, .ref (b 1), .int (nI ln), .int (nI (numP cd ln [1] hi9 0 pos)), .ref (b 2), .ref (b 3), .ref (b 4), .ref (b 5), .int ac, .ref (b 6), .ref (b 7), .ref (b 8), .ref (b 9), .ref (b 10), .ref (b 11)]], [ia ty (b 1) 60 cd]]) H := by rw [hv2]; exact hP
                have hD : va_D A (fl [[ob (b 0) 9 [.int rf, .ref (b 1), .int (nI ln), .int (nI (numP cd ln [1] hi9 0 pos)), .ref (b 2), .ref (b 3), .ref (b 4), .ref (b 5), .int ac, .ref (b 6), .ref (b 7), .ref (b 8), .ref (b 9), .ref (b 10), .ref (b 11)]], [ia ty (b 1) 60 cd]]) := (D_same2 hD [(b 0), (b 1)] rfl rfl)
                exact end_i (bs' := (fun (_ : Unit) => [[ob (b 0) 9 [.int rf, .ref (b 1), .int (nI ln), .int (nI (numP cd ln [1] hi9 0 pos)), .ref (b 2), .ref (b 3), .ref (b 4), .ref (b 5), .int ac, .ref (b 6), .ref (b 7), .ref (b 8), .ref (b 9), .ref (b 10), .ref (b 11)]], [ia ty (b 1) 60 cd]])) () hx hb hr hlocks hP hD hS (by rw [hv1]; rfl) (Nat.le_of_ble_eq_true rfl) (Nat.le_of_ble_eq_true rfl) dX10_number_95
              · first | exact absurd c_19 hiv | exact absurd hiv c_19
      · first | exact absurd c_3 (by decide) | exact absurd (by decide) c_3
    · first | exact absurd c_2 (by decide) | exact absurd (by decide) c_2
  · first | exact absurd c_1 (by decide) | exact absurd (by decide) c_1
set_option maxHeartbeats 4000000 in
set_option maxRecDepth 100000 in
theorem c_X10_number2 (l : Launch) (D : va_G) (ty : Nat → ClassId) (b : Nat → Nat) (rf ac : Int32) (ln pos : Nat) (cd : Nat → Int32) (hi9 : Nat) (hl6 : ln ≤ 60) (hp6 : pos < 1000) (hh9 : hi9 < 100000) : CTi l yX10_number wsX10_number ({ frames := 1, cells := 0, slots := 0, locals := 25 }) D ty [.ref (b 0), .int 2, .int (nI hi9)] [[ob (b 0) 9 [.int rf, .ref (b 1), .int (nI ln), .int (nI pos), .ref (b 2), .ref (b 3), .ref (b 4), .ref (b 5), .int ac, .ref (b 6), .ref (b 7), .ref (b 8), .ref (b 9), .ref (b 10), .ref (b 11)]], [ia ty (b 1) 60 cd]] (fun (RET : Int32) (_ : Unit) => RET = (onV (numV cd ln [10, 1] hi9 0 pos))) (fun (_ : Unit) => [[ob (b 0) 9 [.int rf, .ref (b 1), .int (nI ln), .int (nI (numP cd ln [10, 1] hi9 0 pos)), .ref (b 2), .ref (b 3), .ref (b 4), .ref (b 5), .int ac, .ref (b 6), .ref (b 7), .ref (b 8), .ref (b 9), .ref (b 10), .ref (b 11)]], [ia ty (b 1) 60 cd]]) := by
  refine CTi_of cX10_number 6 (some .int) (by decide) rfl (Nat.le_of_ble_eq_true rfl) ?_
  intro p e s m args below meth c A hx hb hr hml hown hlocks hin hts hA hX hK hP hD ls hl
  have hown : s.vm.findClass RX10 = some m.cls := hown
  have hS : va_S A s.heap s.heap [] := va_S.rf
  have i_X10 : ∀ z ∈ wsX100, z ∈ wsX10_number := fun z h => List.mem_cons_of_mem _ (List.mem_append_right _ h)
  have hl : lv_has ls 6 [(0, .ref (b 0)), (1, .int 2), (2, .int (nI hi9))] := hl
  refine lv_iload_n hx hb dX10_number_0 rfl (lv_at hl 1 rfl) ?_
  refine lv_iconst (v := 4) hx hb dX10_number_1 (by decide) ?_
  refine lv_icmp_ne (tgt := 11) hx hb dX10_number_2 (by decide) (fun c_1 => ?_) (fun c_1 => ?_)
  · skip
    refine lv_iload_n hx hb dX10_number_11 rfl (lv_at hl 1 rfl) ?_
    refine lv_iconst (v := 3) hx hb dX10_number_12 (by decide) ?_
    refine lv_icmp_ne (tgt := 21) hx hb dX10_number_13 (by decide) (fun c_2 => ?_) (fun c_2 => ?_)
    · skip
      refine lv_iload_n hx hb dX10_number_21 rfl (lv_at hl 1 rfl) ?_
      refine lv_iconst (v := 2) hx hb dX10_number_22 (by decide) ?_
      refine lv_icmp_ne (tgt := 31) hx hb dX10_number_23 (by decide) (fun c_3 => ?_) (fun c_3 => ?_)
      · first | exact absurd c_3 (by decide) | exact absurd (by decide) c_3
      · skip
        refine lv_bipush (v := 10) hx hb dX10_number_26 (by decide) ?_
        refine lv_goto (tgt := 32) hx hb dX10_number_28 (by decide) ?_
        refine lv_istore_n (lv' := [(3, .int 10), (0, .ref (b 0)), (1, .int 2), (2, .int (nI hi9))]) hx hb dX10_number_32 rfl hl (by decide) rfl (fun ls hl => ?_)
        refine lv_iconst (v := 0) hx hb dX10_number_33 (by decide) ?_
        refine lv_istore (lv' := [(4, .int 0), (3, .int 10), (0, .ref (b 0)), (1, .int 2), (2, .int (nI hi9))]) hx hb dX10_number_34 hl (by decide) rfl (fun ls hl => ?_)
        refine lv_iload_n hx hb dX10_number_36 rfl (lv_at hl 1 rfl) ?_
        refine lv_if_le (tgt := 123) hx hb dX10_number_37 (by decide) (fun c_4 => ?_) (fun c_4 => ?_)
        · exact absurd c_4 (by decide)
        · skip
          refine lv_aload_n hx hb dX10_number_40 rfl (lv_at hl 2 rfl) ?_
          refine va_get (D := D) (ci := 9) (v := .int (nI pos)) (C := RX10) (T := TX10) (N := 15) hx hb hts i_X10 hown hK hP 0 rfl rfl 3 (by decide) (hts (Cond.fieldLink RX10 102 "BrownClockModel" "spot" "I") (List.mem_of_getElem? (i := 1) rfl)) (fun _ h9 => h9) rfl dX10_number_41 ?_
          refine lv_aload_n hx hb dX10_number_44 rfl (lv_at hl 2 rfl) ?_
          refine va_get (D := D) (ci := 9) (v := .int (nI ln)) (C := RX10) (T := TX10) (N := 15) hx hb hts i_X10 hown hK hP 0 rfl rfl 2 (by decide) (hts (Cond.fieldLink RX10 95 "BrownClockModel" "textSize" "I") (List.mem_of_getElem? (i := 2) rfl)) (fun _ h9 => h9) rfl dX10_number_45 ?_
          refine lv_icmp_ge (tgt := 66) hx hb dX10_number_48 (by decide) (fun c_5 => ?_) (fun c_5 => ?_)
          · skip
            refine lv_iconst (v := (-1)) hx hb dX10_number_66 (by decide) ?_
            have hz2_0 := neq_of (a := 2) (b := 4) (by omega) (by omega) c_1
            have hz13_1 := neq_of (a := 2) (b := 3) (by omega) (by omega) c_2
            have hz23_2 := (nI_eq (a := 2) (b := 2) (by omega) (by omega)).mp c_3
            have hz37_3 := nle_of (a := 10) (b := 0) (by omega) (by omega) c_4
            have hz48_4 := (nI_leI (a := ln) (b := pos) (by omega) (by omega)).mp c_5
            have hd_n0 : ¬ isDig cd ln pos := fun q => absurd q.1 (by omega)
            refine lv_istore (lv' := [(5, .int (-1)), (4, .int 0), (3, .int 10), (0, .ref (b 0)), (1, .int 2), (2, .int (nI hi9))]) hx hb dX10_number_67 hl (by decide) rfl (fun ls hl => ?_)
            refine lv_iload hx hb dX10_number_69 (lv_at hl 0 rfl) ?_
            refine lv_i2l (v := (-1)) hx hb dX10_number_71 (by decide) ?_
            refine lv_lconst (v := 0) hx hb dX10_number_72 (by decide) ?_
            refine lv_ldc2 hx hb hown (hts (Cond.constantLong RX10 105 (9)) (List.mem_of_getElem? (i := 4) rfl)) dX10_number_73 ?_
            refine cSi (As := [.long (-1), .long 0, .long 9]) (rest := []) ⟨hx, hb, hml, hown, hts⟩ (c_X10_in l D ty (-1) 0 9) (va_cwS 3 hts gX10_number_X10_in rfl rfl rfl (by decide +kernel) ⟨Nat.le_of_ble_eq_true rfl, Nat.le_of_ble_eq_true rfl⟩) hK hX hP hD hS hA (pk (bs := [[ob (b 0) 9 [.int rf, .ref (b 1), .int (nI ln), .int (nI pos), .ref (b 2), .ref (b 3), .ref (b 4), .ref (b 5), .int ac, .ref (b 6), .ref (b 7), .ref (b 8), .ref (b 9), .ref (b 10), .ref (b 11)]], [ia ty (b 1) 60 cd]]) (bsc := []) (bsr := [[ob (b 0) 9 [.int rf, .ref (b 1), .int (nI ln), .int (nI pos), .ref (b 2), .ref (b 3), .ref (b 4), .ref (b 5), .int ac, .ref (b 6), .ref (b 7), .ref (b 8), .ref (b 9), .ref (b 10), .ref (b 11)]], [ia ty (b 1) 60 cd]]) [] [0, 1] 2 rfl (by decide +kernel) rfl rfl) rfl hl.1 rfl (Nat.le_of_ble_eq_true rfl) dX10_number_76 ⟨Nat.le_of_ble_eq_true rfl, Nat.le_of_ble_eq_true rfl⟩ (fun r_7 u_6 h_8 H locs hP hD hS => ?_)
            have h_8 : r_7 = (inv (-1) 0 9) := h_8
            subst h_8
            have hP : va_P D vwCl (fl [[ob (b 0) 9 [.int rf, .ref (b 1), .int (nI ln), .int (nI pos), .ref (b 2), .ref (b 3), .ref (b 4), .ref (b 5), .int ac, .ref (b 6), .ref (b 7), .ref (b 8), .ref (b 9), .ref (b 10), .ref (b 11)]], [ia ty (b 1) 60 cd]]) H := P_perm (po (bs := [[ob (b 0) 9 [.int rf, .ref (b 1), .int (nI ln), .int (nI pos), .ref (b 2), .ref (b 3), .ref (b 4), .ref (b 5), .int ac, .ref (b 6), .ref (b 7), .ref (b 8), .ref (b 9), .ref (b 10), .ref (b 11)]], [ia ty (b 1) 60 cd]]) [0, 1] 2 rfl (by decide +kernel) rfl) hP
            have hD : va_D A (fl [[ob (b 0) 9 [.int rf, .ref (b 1), .int (nI ln), .int (nI pos), .ref (b 2), .ref (b 3), .ref (b 4), .ref (b 5), .int ac, .ref (b 6), .ref (b 7), .ref (b 8), .ref (b 9), .ref (b 10), .ref (b 11)]], [ia ty (b 1) 60 cd]]) := D_perm (po (bs := [[ob (b 0) 9 [.int rf, .ref (b 1), .int (nI ln), .int (nI pos), .ref (b 2), .ref (b 3), .ref (b 4), .ref (b 5), .int ac, .ref (b 6), .ref (b 7), .ref (b 8), .ref (b 9), .ref (b 10), .ref (b 11)]], [ia ty (b 1) 60 cd]]) [0, 1] 2 rfl (by decide +kernel) rfl) hD
            refine lv_if_eq (tgt := 93) hx hb dX10_number_79 (by decide) (fun c_9 => ?_) (fun c_9 => ?_)
            · skip
              refine lv_ldc hx hb hown (hts (Cond.constant RX10 53 (-99999999)) (List.mem_of_getElem? (i := 5) rfl)) dX10_number_93 ?_
              have hz2_0 := neq_of (a := 2) (b := 4) (by omega) (by omega) c_1
              have hz13_1 := neq_of (a := 2) (b := 3) (by omega) (by omega) c_2
              have hz23_2 := (nI_eq (a := 2) (b := 2) (by omega) (by omega)).mp c_3
              have hz37_3 := nle_of (a := 10) (b := 0) (by omega) (by omega) c_4
              have hz48_4 := (nI_leI (a := ln) (b := pos) (by omega) (by omega)).mp c_5
              have hv1 : numV cd ln [10, 1] hi9 0 pos = _ := (numV_n (fun q => by first | exact hd_n0 q.1 | omega)).1
              have hv2 : numP cd ln [10, 1] hi9 0 pos = _ := (numV_n (fun q => by first | exact hd_n0 q.1 | omega)).2
              have hP : va_P D vwCl (fl [[ob (b 0) 9 [.int rf, .ref (b 1), .int (nI ln), .int (nI (numP cd ln [10, 1] hi9 0 pos)), .ref (b 2), .ref (b 3), .ref (b 4), .ref (b 5), .int ac, .ref (b 6), .ref (b 7), .ref (b 8), .ref (b 9), .ref (b 10), .ref (b 11)]], [ia ty (b 1) 60 cd]]) H := by rw [hv2]; exact hP
              have hD : va_D A (fl [[ob (b 0) 9 [.int rf, .ref (b 1), .int (nI ln), .int (nI (numP cd ln [10, 1] hi9 0 pos)), .ref (b 2), .ref (b 3), .ref (b 4), .ref (b 5), .int ac, .ref (b 6), .ref (b 7), .ref (b 8), .ref (b 9), .ref (b 10), .ref (b 11)]], [ia ty (b 1) 60 cd]]) := (D_same2 hD [(b 0), (b 1)] rfl rfl)
              exact end_i (bs' := (fun (_ : Unit) => [[ob (b 0) 9 [.int rf, .ref (b 1), .int (nI ln), .int (nI (numP cd ln [10, 1] hi9 0 pos)), .ref (b 2), .ref (b 3), .ref (b 4), .ref (b 5), .int ac, .ref (b 6), .ref (b 7), .ref (b 8), .ref (b 9), .ref (b 10), .ref (b 11)]], [ia ty (b 1) 60 cd]])) () hx hb hr hlocks hP hD hS (by rw [hv1]; rfl) (Nat.le_of_ble_eq_true rfl) (Nat.le_of_ble_eq_true rfl) dX10_number_95
            · first | exact absurd c_9 (by decide +kernel) | exact absurd (by decide +kernel) c_9
          · skip
            have hz2_0 := neq_of (a := 2) (b := 4) (by omega) (by omega) c_1
            have hz13_1 := neq_of (a := 2) (b := 3) (by omega) (by omega) c_2
            have hz23_2 := (nI_eq (a := 2) (b := 2) (by omega) (by omega)).mp c_3
            have hz37_3 := nle_of (a := 10) (b := 0) (by omega) (by omega) c_4
            have hz48_4 := nle_of (a := ln) (b := pos) (by omega) (by omega) c_5
            refine lv_aload_n hx hb dX10_number_51 rfl (lv_at hl 2 rfl) ?_
            refine va_get (D := D) (ci := 9) (v := .ref (b 1)) (C := RX10) (T := TX10) (N := 15) hx hb hts i_X10 hown hK hP 0 rfl rfl 1 (by decide) (hts (Cond.fieldLink RX10 7 "BrownClockModel" "text" "[I") (List.mem_of_getElem? (i := 3) rfl)) (fun _ h9 => h9) rfl dX10_number_52 ?_
            refine lv_aload_n hx hb dX10_number_55 rfl (lv_at hl 2 rfl) ?_
            refine va_get (D := D) (ci := 9) (v := .int (nI pos)) (C := RX10) (T := TX10) (N := 15) hx hb hts i_X10 hown hK hP 0 rfl rfl 3 (by decide) (hts (Cond.fieldLink RX10 102 "BrownClockModel" "spot" "I") (List.mem_of_getElem? (i := 1) rfl)) (fun _ h9 => h9) rfl dX10_number_56 ?_
            refine k_iald hx hb hK hP 1 rfl pos rfl (by omega) (Nat.le_of_ble_eq_true rfl) (v := cd pos) rfl dX10_number_59 ?_
            refine lv_bipush (v := 48) hx hb dX10_number_60 (by decide) ?_
            refine k_isub (v := ((cd pos) - 48)) hx hb dX10_number_62 rfl ?_
            refine lv_goto (tgt := 67) hx hb dX10_number_63 (by decide) ?_
            have hz2_0 := neq_of (a := 2) (b := 4) (by omega) (by omega) c_1
            have hz13_1 := neq_of (a := 2) (b := 3) (by omega) (by omega) c_2
            have hz23_2 := (nI_eq (a := 2) (b := 2) (by omega) (by omega)).mp c_3
            have hz37_3 := nle_of (a := 10) (b := 0) (by omega) (by omega) c_4
            have hz48_4 := nle_of (a := ln) (b := pos) (by omega) (by omega) c_5
            rcases Classical.em (isDig cd ln pos) with hd_0 | hd_0
            · have hd9_0 := (dig_nI hd_0).2
              refine W.eq (g2 := F0 m 67 ls [.int (nI (digN cd pos))]) (by rw [(dig_nI hd_0).1]) ?_
              refine lv_istore (lv' := [(5, .int (nI (digN cd pos))), (4, .int 0), (3, .int 10), (0, .ref (b 0)), (1, .int 2), (2, .int (nI hi9))]) hx hb dX10_number_67 hl (by decide) rfl (fun ls hl => ?_)
              refine lv_iload hx hb dX10_number_69 (lv_at hl 0 rfl) ?_
              refine lv_i2l (v := (Int32.toInt64 (nI (digN cd pos)))) hx hb dX10_number_71 rfl ?_
              refine lv_lconst (v := 0) hx hb dX10_number_72 (by decide) ?_
              refine lv_ldc2 hx hb hown (hts (Cond.constantLong RX10 105 (9)) (List.mem_of_getElem? (i := 4) rfl)) dX10_number_73 ?_
              refine cSi (As := [.long (Int32.toInt64 (nI (digN cd pos))), .long 0, .long 9]) (rest := []) ⟨hx, hb, hml, hown, hts⟩ (c_X10_in l D ty (Int32.toInt64 (nI (digN cd pos))) 0 9) (va_cwS 3 hts gX10_number_X10_in rfl rfl rfl (by decide +kernel) ⟨Nat.le_of_ble_eq_true rfl, Nat.le_of_ble_eq_true rfl⟩) hK hX hP hD hS hA (pk (bs := [[ob (b 0) 9 [.int rf, .ref (b 1), .int (nI ln), .int (nI pos), .ref (b 2), .ref (b 3), .ref (b 4), .ref (b 5), .int ac, .ref (b 6), .ref (b 7), .ref (b 8), .ref (b 9), .ref (b 10), .ref (b 11)]], [ia ty (b 1) 60 cd]]) (bsc := []) (bsr := [[ob (b 0) 9 [.int rf, .ref (b 1), .int (nI ln), .int (nI pos), .ref (b 2), .ref (b 3), .ref (b 4), .ref (b 5), .int ac, .ref (b 6), .ref (b 7), .ref (b 8), .ref (b 9), .ref (b 10), .ref (b 11)]], [ia ty (b 1) 60 cd]]) [] [0, 1] 2 rfl (by decide +kernel) rfl rfl) rfl hl.1 rfl (Nat.le_of_ble_eq_true rfl) dX10_number_76 ⟨Nat.le_of_ble_eq_true rfl, Nat.le_of_ble_eq_true rfl⟩ (fun r_11 u_10 h_12 H locs hP hD hS => ?_)
              have h_12 : r_11 = (inv (Int32.toInt64 (nI (digN cd pos))) 0 9) := h_12
              subst h_12
              have hP : va_P D vwCl (fl [[ob (b 0) 9 [.int rf, .ref (b 1), .int (nI ln), .int (nI pos), .ref (b 2), .ref (b 3), .ref (b 4), .ref (b 5), .int ac, .ref (b 6), .ref (b 7), .ref (b 8), .ref (b 9), .ref (b 10), .ref (b 11)]], [ia ty (b 1) 60 cd]]) H := P_perm (po (bs := [[ob (b 0) 9 [.int rf, .ref (b 1), .int (nI ln), .int (nI pos), .ref (b 2), .ref (b 3), .ref (b 4), .ref (b 5), .int ac, .ref (b 6), .ref (b 7), .ref (b 8), .ref (b 9), .ref (b 10), .ref (b 11)]], [ia ty (b 1) 60 cd]]) [0, 1] 2 rfl (by decide +kernel) rfl) hP
              have hD : va_D A (fl [[ob (b 0) 9 [.int rf, .ref (b 1), .int (nI ln), .int (nI pos), .ref (b 2), .ref (b 3), .ref (b 4), .ref (b 5), .int ac, .ref (b 6), .ref (b 7), .ref (b 8), .ref (b 9), .ref (b 10), .ref (b 11)]], [ia ty (b 1) 60 cd]]) := D_perm (po (bs := [[ob (b 0) 9 [.int rf, .ref (b 1), .int (nI ln), .int (nI pos), .ref (b 2), .ref (b 3), .ref (b 4), .ref (b 5), .int ac, .ref (b 6), .ref (b 7), .ref (b 8), .ref (b 9), .ref (b 10), .ref (b 11)]], [ia ty (b 1) 60 cd]]) [0, 1] 2 rfl (by decide +kernel) rfl) hD
              refine lv_if_eq (tgt := 93) hx hb dX10_number_79 (by decide) (fun c_13 => ?_) (fun c_13 => ?_)
              · first | exact absurd c_13 (inv_d hd9_0) | exact absurd (inv_d hd9_0) c_13
              · skip
                refine lv_iload hx hb dX10_number_82 (lv_at hl 1 rfl) ?_
                refine lv_iload hx hb dX10_number_84 (lv_at hl 0 rfl) ?_
                refine lv_iload_n hx hb dX10_number_86 rfl (lv_at hl 2 rfl) ?_
                refine k_imul (v := (nI (digN cd pos * 10))) hx hb dX10_number_87 (nI_mul (digN cd pos) (10)) ?_
                refine k_iadd (v := (nI (0 + digN cd pos * 10))) hx hb dX10_number_88 (nI_add (0) (digN cd pos * 10)) ?_
                refine lv_iload_n hx hb dX10_number_89 rfl (lv_at hl 5 rfl) ?_
                refine lv_icmp_le (tgt := 96) hx hb dX10_number_90 (by decide) (fun c_14 => ?_) (fun c_14 => ?_)
                · skip
                  refine lv_iload hx hb dX10_number_96 (lv_at hl 1 rfl) ?_
                  refine lv_iload hx hb dX10_number_98 (lv_at hl 0 rfl) ?_
                  refine lv_iload_n hx hb dX10_number_100 rfl (lv_at hl 2 rfl) ?_
                  refine k_imul (v := (nI (digN cd pos * 10))) hx hb dX10_number_101 (nI_mul (digN cd pos) (10)) ?_
                  refine k_iadd (v := (nI (0 + digN cd pos * 10))) hx hb dX10_number_102 (nI_add (0) (digN cd pos * 10)) ?_
                  refine lv_istore (lv' := [(4, .int (nI (0 + digN cd pos * 10))), (5, .int (nI (digN cd pos))), (3, .int 10), (0, .ref (b 0)), (1, .int 2), (2, .int (nI hi9))]) hx hb dX10_number_103 hl (by decide) rfl (fun ls hl => ?_)
                  refine lv_iload_n hx hb dX10_number_105 rfl (lv_at hl 2 rfl) ?_
                  refine lv_bipush (v := 10) hx hb dX10_number_106 (by decide) ?_
                  refine k_idiv (v := 1) hx hb dX10_number_108 (by decide) (by decide) ?_
                  refine lv_istore_n (lv' := [(3, .int 1), (4, .int (nI (0 + digN cd pos * 10))), (5, .int (nI (digN cd pos))), (0, .ref (b 0)), (1, .int 2), (2, .int (nI hi9))]) hx hb dX10_number_109 rfl hl (by decide) rfl (fun ls hl => ?_)
                  refine lv_aload_n hx hb dX10_number_110 rfl (lv_at hl 3 rfl) ?_
                  refine lv_dup hx hb dX10_number_111 rfl ?_
                  refine va_get (D := D) (ci := 9) (v := .int (nI pos)) (C := RX10) (T := TX10) (N := 15) hx hb hts i_X10 hown hK hP 0 rfl rfl 3 (by decide) (hts (Cond.fieldLink RX10 102 "BrownClockModel" "spot" "I") (List.mem_of_getElem? (i := 1) rfl)) (fun _ h9 => h9) rfl dX10_number_112 ?_
                  refine lv_iconst (v := 1) hx hb dX10_number_115 (by decide) ?_
                  refine k_iadd (v := (nI (pos + 1))) hx hb dX10_number_116 (nI_add (pos) (1)) ?_
                  refine va_put (D := D) (ci := 9) (v := .int (nI (pos + 1))) (ty := .int) (C := RX10) (T := TX10) (N := 15) hx hb hts i_X10 tyX10 tyX10_ok nmX10 hown hK hP hD hS 0 rfl rfl 3 (by decide) (hts (Cond.fieldLink RX10 102 "BrownClockModel" "spot" "I") (List.mem_of_getElem? (i := 1) rfl)) (fun _ h9 => h9) rfl (by decide +kernel) rfl rfl (Nat.le_of_ble_eq_true rfl) dX10_number_117 (fun H locs hP hD hS => ?_)
                  have hP : va_P D vwCl (fl [[ob (b 0) 9 [.int rf, .ref (b 1), .int (nI ln), .int (nI (pos + 1)), .ref (b 2), .ref (b 3), .ref (b 4), .ref (b 5), .int ac, .ref (b 6), .ref (b 7), .ref (b 8), .ref (b 9), .ref (b 10), .ref (b 11)]], [ia ty (b 1) 60 cd]]) H := hP
                  have hD : va_D A (fl [[ob (b 0) 9 [.int rf, .ref (b 1), .int (nI ln), .int (nI (pos + 1)), .ref (b 2), .ref (b 3), .ref (b 4), .ref (b 5), .int ac, .ref (b 6), .ref (b 7), .ref (b 8), .ref (b 9), .ref (b 10), .ref (b 11)]], [ia ty (b 1) 60 cd]]) := hD
                  refine lv_goto (tgt := 36) hx hb dX10_number_120 (by decide) ?_
                  refine lv_iload_n hx hb dX10_number_36 rfl (lv_at hl 0 rfl) ?_
                  refine lv_if_le (tgt := 123) hx hb dX10_number_37 (by decide) (fun c_15 => ?_) (fun c_15 => ?_)
                  · exact absurd c_15 (by decide)
                  · skip
                    refine lv_aload_n hx hb dX10_number_40 rfl (lv_at hl 3 rfl) ?_
                    refine va_get (D := D) (ci := 9) (v := .int (nI (pos + 1))) (C := RX10) (T := TX10) (N := 15) hx hb hts i_X10 hown hK hP 0 rfl rfl 3 (by decide) (hts (Cond.fieldLink RX10 102 "BrownClockModel" "spot" "I") (List.mem_of_getElem? (i := 1) rfl)) (fun _ h9 => h9) rfl dX10_number_41 ?_
                    refine lv_aload_n hx hb dX10_number_44 rfl (lv_at hl 3 rfl) ?_
                    refine va_get (D := D) (ci := 9) (v := .int (nI ln)) (C := RX10) (T := TX10) (N := 15) hx hb hts i_X10 hown hK hP 0 rfl rfl 2 (by decide) (hts (Cond.fieldLink RX10 95 "BrownClockModel" "textSize" "I") (List.mem_of_getElem? (i := 2) rfl)) (fun _ h9 => h9) rfl dX10_number_45 ?_
                    refine lv_icmp_ge (tgt := 66) hx hb dX10_number_48 (by decide) (fun c_16 => ?_) (fun c_16 => ?_)
                    · skip
                      refine lv_iconst (v := (-1)) hx hb dX10_number_66 (by decide) ?_
                      have hz2_0 := neq_of (a := 2) (b := 4) (by omega) (by omega) c_1
                      have hz13_1 := neq_of (a := 2) (b := 3) (by omega) (by omega) c_2
                      have hz23_2 := (nI_eq (a := 2) (b := 2) (by omega) (by omega)).mp c_3
                      have hz37_3 := nle_of (a := 10) (b := 0) (by omega) (by omega) c_4
                      have hz48_4 := nle_of (a := ln) (b := pos) (by omega) (by omega) c_5
                      have hz90_6 := (nI_leI (a := 0 + digN cd pos * 10) (b := hi9) (by omega) (by omega)).mp c_14
                      have hz37_7 := nle_of (a := 1) (b := 0) (by omega) (by omega) c_15
                      have hz48_8 := (nI_leI (a := ln) (b := pos + 1) (by omega) (by omega)).mp c_16
                      have hd_n1 : ¬ isDig cd ln (pos + 1) := fun q => absurd q.1 (by omega)
                      refine lv_istore (lv' := [(5, .int (-1)), (3, .int 1), (4, .int (nI (0 + digN cd pos * 10))), (0, .ref (b 0)), (1, .int 2), (2, .int (nI hi9))]) hx hb dX10_number_67 hl (by decide) rfl (fun ls hl => ?_)
                      refine lv_iload hx hb dX10_number_69 (lv_at hl 0 rfl) ?_
                      refine lv_i2l (v := (-1)) hx hb dX10_number_71 (by decide) ?_
                      refine lv_lconst (v := 0) hx hb dX10_number_72 (by decide) ?_
                      refine lv_ldc2 hx hb hown (hts (Cond.constantLong RX10 105 (9)) (List.mem_of_getElem? (i := 4) rfl)) dX10_number_73 ?_
                      refine cSi (As := [.long (-1), .long 0, .long 9]) (rest := []) ⟨hx, hb, hml, hown, hts⟩ (c_X10_in l D ty (-1) 0 9) (va_cwS 3 hts gX10_number_X10_in rfl rfl rfl (by decide +kernel) ⟨Nat.le_of_ble_eq_true rfl, Nat.le_of_ble_eq_true rfl⟩) hK hX hP hD hS hA (pk (bs := [[ob (b 0) 9 [.int rf, .ref (b 1), .int (nI ln), .int (nI (pos + 1)), .ref (b 2), .ref (b 3), .ref (b 4), .ref (b 5), .int ac, .ref (b 6), .ref (b 7), .ref (b 8), .ref (b 9), .ref (b 10), .ref (b 11)]], [ia ty (b 1) 60 cd]]) (bsc := []) (bsr := [[ob (b 0) 9 [.int rf, .ref (b 1), .int (nI ln), .int (nI (pos + 1)), .ref (b 2), .ref (b 3), .ref (b 4), .ref (b 5), .int ac, .ref (b 6), .ref (b 7), .ref (b 8), .ref (b 9), .ref (b 10), .ref (b 11)]], [ia ty (b 1) 60 cd]]) [] [0, 1] 2 rfl (by decide +kernel) rfl rfl) rfl hl.1 rfl (Nat.le_of_ble_eq_true rfl) dX10_number_76 ⟨Nat.le_of_ble_eq_true rfl, Nat.le_of_ble_eq_true rfl⟩ (fun r_18 u_17 h_19 H locs hP hD hS => ?_)
                      have h_19 : r_18 = (inv (-1) 0 9) := h_19
                      subst h_19
                      have hP : va_P D vwCl (fl [[ob (b 0) 9 [.int rf, .ref (b 1), .int (nI ln), .int (nI (pos + 1)), .ref (b 2), .ref (b 3), .ref (b 4), .ref (b 5), .int ac, .ref (b 6), .ref (b 7), .ref (b 8), .ref (b 9), .ref (b 10), .ref (b 11)]], [ia ty (b 1) 60 cd]]) H := P_perm (po (bs := [[ob (b 0) 9 [.int rf, .ref (b 1), .int (nI ln), .int (nI (pos + 1)), .ref (b 2), .ref (b 3), .ref (b 4), .ref (b 5), .int ac, .ref (b 6), .ref (b 7), .ref (b 8), .ref (b 9), .ref (b 10), .ref (b 11)]], [ia ty (b 1) 60 cd]]) [0, 1] 2 rfl (by decide +kernel) rfl) hP
                      have hD : va_D A (fl [[ob (b 0) 9 [.int rf, .ref (b 1), .int (nI ln), .int (nI (pos + 1)), .ref (b 2), .ref (b 3), .ref (b 4), .ref (b 5), .int ac, .ref (b 6), .ref (b 7), .ref (b 8), .ref (b 9), .ref (b 10), .ref (b 11)]], [ia ty (b 1) 60 cd]]) := D_perm (po (bs := [[ob (b 0) 9 [.int rf, .ref (b 1), .int (nI ln), .int (nI (pos + 1)), .ref (b 2), .ref (b 3), .ref (b 4), .ref (b 5), .int ac, .ref (b 6), .ref (b 7), .ref (b 8), .ref (b 9), .ref (b 10), .ref (b 11)]], [ia ty (b 1) 60 cd]]) [0, 1] 2 rfl (by decide +kernel) rfl) hD
                      refine lv_if_eq (tgt := 93) hx hb dX10_number_79 (by decide) (fun c_20 => ?_) (fun c_20 => ?_)
                      · skip
                        refine lv_ldc hx hb hown (hts (Cond.constant RX10 53 (-99999999)) (List.mem_of_getElem? (i := 5) rfl)) dX10_number_93 ?_
                        have hz2_0 := neq_of (a := 2) (b := 4) (by omega) (by omega) c_1
                        have hz13_1 := neq_of (a := 2) (b := 3) (by omega) (by omega) c_2
                        have hz23_2 := (nI_eq (a := 2) (b := 2) (by omega) (by omega)).mp c_3
                        have hz37_3 := nle_of (a := 10) (b := 0) (by omega) (by omega) c_4
                        have hz48_4 := nle_of (a := ln) (b := pos) (by omega) (by omega) c_5
                        have hz90_6 := (nI_leI (a := 0 + digN cd pos * 10) (b := hi9) (by omega) (by omega)).mp c_14
                        have hz37_7 := nle_of (a := 1) (b := 0) (by omega) (by omega) c_15
                        have hz48_8 := (nI_leI (a := ln) (b := pos + 1) (by omega) (by omega)).mp c_16
                        have hv1 : numV cd ln [10, 1] hi9 0 pos = _ := (numV_y ⟨hd_0, by omega⟩).1.trans ((numV_n (fun q => by first | exact hd_n1 q.1 | omega)).1)
                        have hv2 : numP cd ln [10, 1] hi9 0 pos = _ := (numV_y ⟨hd_0, by omega⟩).2.trans ((numV_n (fun q => by first | exact hd_n1 q.1 | omega)).2)
                        have hP : va_P D vwCl (fl [[ob (b 0) 9 [.int rf, .ref (b 1), .int (nI ln), .int (nI (numP cd ln [10, 1] hi9 0 pos)), .ref (b 2), .ref (b 3), .ref (b 4), .ref (b 5), .int ac, .ref (b 6), .ref (b 7), .ref (b 8), .ref (b 9), .ref (b 10), .ref (b 11)]], [ia ty (b 1) 60 cd]]) H := by rw [hv2]; exact hP
                        have hD : va_D A (fl [[ob (b 0) 9 [.int rf, .ref (b 1), .int (nI ln), .int (nI (numP cd ln [10, 1] hi9 0 pos)), .ref (b 2), .ref (b 3), .ref (b 4), .ref (b 5), .int ac, .ref (b 6), .ref (b 7), .ref (b 8), .ref (b 9), .ref (b 10), .ref (b 11)]], [ia ty (b 1) 60 cd]]) := (D_same2 hD [(b 0), (b 1)] rfl rfl)
                        exact end_i (bs' := (fun (_ : Unit) => [[ob (b 0) 9 [.int rf, .ref (b 1), .int (nI ln), .int (nI (numP cd ln [10, 1] hi9 0 pos)), .ref (b 2), .ref (b 3), .ref (b 4), .ref (b 5), .int ac, .ref (b 6), .ref (b 7), .ref (b 8), .ref (b 9), .ref (b 10), .ref (b 11)]], [ia ty (b 1) 60 cd]])) () hx hb hr hlocks hP hD hS (by rw [hv1]; rfl) (Nat.le_of_ble_eq_true rfl) (Nat.le_of_ble_eq_true rfl) dX10_number_95
                      · first | exact absurd c_20 (by decide +kernel) | exact absurd (by decide +kernel) c_20
                    · skip
                      have hz2_0 := neq_of (a := 2) (b := 4) (by omega) (by omega) c_1
                      have hz13_1 := neq_of (a := 2) (b := 3) (by omega) (by omega) c_2
                      have hz23_2 := (nI_eq (a := 2) (b := 2) (by omega) (by omega)).mp c_3
                      have hz37_3 := nle_of (a := 10) (b := 0) (by omega) (by omega) c_4
                      have hz48_4 := nle_of (a := ln) (b := pos) (by omega) (by omega) c_5
                      have hz90_6 := (nI_leI (a := 0 + digN cd pos * 10) (b := hi9) (by omega) (by omega)).mp c_14
                      have hz37_7 := nle_of (a := 1) (b := 0) (by omega) (by omega) c_15
                      have hz48_8 := nle_of (a := ln) (b := pos + 1) (by omega) (by omega) c_16
                      refine lv_aload_n hx hb dX10_number_51 rfl (lv_at hl 3 rfl) ?_
                      refine va_get (D := D) (ci := 9) (v := .ref (b 1)) (C := RX10) (T := TX10) (N := 15) hx hb hts i_X10 hown hK hP 0 rfl rfl 1 (by decide) (hts (Cond.fieldLink RX10 7 "BrownClockModel" "text" "[I") (List.mem_of_getElem? (i := 3) rfl)) (fun _ h9 => h9) rfl dX10_number_52 ?_
                      refine lv_aload_n hx hb dX10_number_55 rfl (lv_at hl 3 rfl) ?_
                      refine va_get (D := D) (ci := 9) (v := .int (nI (pos + 1))) (C := RX10) (T := TX10) (N := 15) hx hb hts i_X10 hown hK hP 0 rfl rfl 3 (by decide) (hts (Cond.fieldLink RX10 102 "BrownClockModel" "spot" "I") (List.mem_of_getElem? (i := 1) rfl)) (fun _ h9 => h9) rfl dX10_number_56 ?_
                      refine k_iald hx hb hK hP 1 rfl (pos + 1) rfl (by omega) (Nat.le_of_ble_eq_true rfl) (v := cd (pos + 1)) rfl dX10_number_59 ?_
                      refine lv_bipush (v := 48) hx hb dX10_number_60 (by decide) ?_
                      refine k_isub (v := ((cd (pos + 1)) - 48)) hx hb dX10_number_62 rfl ?_
                      refine lv_goto (tgt := 67) hx hb dX10_number_63 (by decide) ?_
                      have hz2_0 := neq_of (a := 2) (b := 4) (by omega) (by omega) c_1
                      have hz13_1 := neq_of (a := 2) (b := 3) (by omega) (by omega) c_2
                      have hz23_2 := (nI_eq (a := 2) (b := 2) (by omega) (by omega)).mp c_3
                      have hz37_3 := nle_of (a := 10) (b := 0) (by omega) (by omega) c_4
                      have hz48_4 := nle_of (a := ln) (b := pos) (by omega) (by omega) c_5
                      have hz90_6 := (nI_leI (a := 0 + digN cd pos * 10) (b := hi9) (by omega) (by omega)).mp c_14
                      have hz37_7 := nle_of (a := 1) (b := 0) (by omega) (by omega) c_15
                      have hz48_8 := nle_of (a := ln) (b := pos + 1) (by omega) (by omega) c_16
                      rcases Classical.em (isDig cd ln (pos + 1)) with hd_1 | hd_1
                      · have hd9_1 := (dig_nI hd_1).2
                        refine W.eq (g2 := F0 m 67 ls [.int (nI (digN cd (pos + 1)))]) (by rw [(dig_nI hd_1).1]) ?_
                        refine lv_istore (lv' := [(5, .int (nI (digN cd (pos + 1)))), (3, .int 1), (4, .int (nI (0 + digN cd pos * 10))), (0, .ref (b 0)), (1, .int 2), (2, .int (nI hi9))]) hx hb dX10_number_67 hl (by decide) rfl (fun ls hl => ?_)
                        refine lv_iload hx hb dX10_number_69 (lv_at hl 0 rfl) ?_
                        refine lv_i2l (v := (Int32.toInt64 (nI (digN cd (pos + 1))))) hx hb dX10_number_71 rfl ?_
                        refine lv_lconst (v := 0) hx hb dX10_number_72 (by decide) ?_
                        refine lv_ldc2 hx hb hown (hts (Cond.constantLong RX10 105 (9)) (List.mem_of_getElem? (i := 4) rfl)) dX10_number_73 ?_
                        refine cSi (As := [.long (Int32.toInt64 (nI (digN cd (pos + 1)))), .long 0, .long 9]) (rest := []) ⟨hx, hb, hml, hown, hts⟩ (c_X10_in l D ty (Int32.toInt64 (nI (digN cd (pos + 1)))) 0 9) (va_cwS 3 hts gX10_number_X10_in rfl rfl rfl (by decide +kernel) ⟨Nat.le_of_ble_eq_true rfl, Nat.le_of_ble_eq_true rfl⟩) hK hX hP hD hS hA (pk (bs := [[ob (b 0) 9 [.int rf, .ref (b 1), .int (nI ln), .int (nI (pos + 1)), .ref (b 2), .ref (b 3), .ref (b 4), .ref (b 5), .int ac, .ref (b 6), .ref (b 7), .ref (b 8), .ref (b 9), .ref (b 10), .ref (b 11)]], [ia ty (b 1) 60 cd]]) (bsc := []) (bsr := [[ob (b 0) 9 [.int rf, .ref (b 1), .int (nI ln), .int (nI (pos + 1)), .ref (b 2), .ref (b 3), .ref (b 4), .ref (b 5), .int ac, .ref (b 6), .ref (b 7), .ref (b 8), .ref (b 9), .ref (b 10), .ref (b 11)]], [ia ty (b 1) 60 cd]]) [] [0, 1] 2 rfl (by decide +kernel) rfl rfl) rfl hl.1 rfl (Nat.le_of_ble_eq_true rfl) dX10_number_76 ⟨Nat.le_of_ble_eq_true rfl, Nat.le_of_ble_eq_true rfl⟩ (fun r_22 u_21 h_23 H locs hP hD hS => ?_)
                        have h_23 : r_22 = (inv (Int32.toInt64 (nI (digN cd (pos + 1)))) 0 9) := h_23
                        subst h_23
                        have hP : va_P D vwCl (fl [[ob (b 0) 9 [.int rf, .ref (b 1), .int (nI ln), .int (nI (pos + 1)), .ref (b 2), .ref (b 3), .ref (b 4), .ref (b 5), .int ac, .ref (b 6), .ref (b 7), .ref (b 8), .ref (b 9), .ref (b 10), .ref (b 11)]], [ia ty (b 1) 60 cd]]) H := P_perm (po (bs := [[ob (b 0) 9 [.int rf, .ref (b 1), .int (nI ln), .int (nI (pos + 1)), .ref (b 2), .ref (b 3), .ref (b 4), .ref (b 5), .int ac, .ref (b 6), .ref (b 7), .ref (b 8), .ref (b 9), .ref (b 10), .ref (b 11)]], [ia ty (b 1) 60 cd]]) [0, 1] 2 rfl (by decide +kernel) rfl) hP
                        have hD : va_D A (fl [[ob (b 0) 9 [.int rf, .ref (b 1), .int (nI ln), .int (nI (pos + 1)), .ref (b 2), .ref (b 3), .ref (b 4), .ref (b 5), .int ac, .ref (b 6), .ref (b 7), .ref (b 8), .ref (b 9), .ref (b 10), .ref (b 11)]], [ia ty (b 1) 60 cd]]) := D_perm (po (bs := [[ob (b 0) 9 [.int rf, .ref (b 1), .int (nI ln), .int (nI (pos + 1)), .ref (b 2), .ref (b 3), .ref (b 4), .ref (b 5), .int ac, .ref (b 6), .ref (b 7), .ref (b 8), .ref (b 9), .ref (b 10), .ref (b 11)]], [ia ty (b 1) 60 cd]]) [0, 1] 2 rfl (by decide +kernel) rfl) hD
                        refine lv_if_eq (tgt := 93) hx hb dX10_number_79 (by decide) (fun c_24 => ?_) (fun c_24 => ?_)
                        · first | exact absurd c_24 (inv_d hd9_1) | exact absurd (inv_d hd9_1) c_24
                        · skip
                          refine lv_iload hx hb dX10_number_82 (lv_at hl 2 rfl) ?_
                          refine lv_iload hx hb dX10_number_84 (lv_at hl 0 rfl) ?_
                          refine lv_iload_n hx hb dX10_number_86 rfl (lv_at hl 1 rfl) ?_
                          refine k_imul (v := (nI (digN cd (pos + 1) * 1))) hx hb dX10_number_87 (nI_mul (digN cd (pos + 1)) (1)) ?_
                          refine k_iadd (v := (nI (0 + digN cd pos * 10 + (digN cd (pos + 1) * 1)))) hx hb dX10_number_88 (nI_add (0 + digN cd pos * 10) (digN cd (pos + 1) * 1)) ?_
                          refine lv_iload_n hx hb dX10_number_89 rfl (lv_at hl 5 rfl) ?_
                          refine lv_icmp_le (tgt := 96) hx hb dX10_number_90 (by decide) (fun c_25 => ?_) (fun c_25 => ?_)
                          · skip
                            refine lv_iload hx hb dX10_number_96 (lv_at hl 2 rfl) ?_
                            refine lv_iload hx hb dX10_number_98 (lv_at hl 0 rfl) ?_
                            refine lv_iload_n hx hb dX10_number_100 rfl (lv_at hl 1 rfl) ?_
                            refine k_imul (v := (nI (digN cd (pos + 1) * 1))) hx hb dX10_number_101 (nI_mul (digN cd (pos + 1)) (1)) ?_
                            refine k_iadd (v := (nI (0 + digN cd pos * 10 + (digN cd (pos + 1) * 1)))) hx hb dX10_number_102 (nI_add (0 + digN cd pos * 10) (digN cd (pos + 1) * 1)) ?_
                            refine lv_istore (lv' := [(4, .int (nI (0 + digN cd pos * 10 + (digN cd (pos + 1) * 1)))), (5, .int (nI (digN cd (pos + 1)))), (3, .int 1), (0, .ref (b 0)), (1, .int 2), (2, .int (nI hi9))]) hx hb dX10_number_103 hl (by decide) rfl (fun ls hl => ?_)
                            refine lv_iload_n hx hb dX10_number_105 rfl (lv_at hl 2 rfl) ?_
                            refine lv_bipush (v := 10) hx hb dX10_number_106 (by decide) ?_
                            refine k_idiv (v := 0) hx hb dX10_number_108 (by decide) (by decide) ?_
                            refine lv_istore_n (lv' := [(3, .int 0), (4, .int (nI (0 + digN cd pos * 10 + (digN cd (pos + 1) * 1)))), (5, .int (nI (digN cd (pos + 1)))), (0, .ref (b 0)), (1, .int 2), (2, .int (nI hi9))]) hx hb dX10_number_109 rfl hl (by decide) rfl (fun ls hl => ?_)
                            refine lv_aload_n hx hb dX10_number_110 rfl (lv_at hl 3 rfl) ?_
                            refine lv_dup hx hb dX10_number_111 rfl ?_
                            refine va_get (D := D) (ci := 9) (v := .int (nI (pos + 1))) (C := RX10) (T := TX10) (N := 15) hx hb hts i_X10 hown hK hP 0 rfl rfl 3 (by decide) (hts (Cond.fieldLink RX10 102 "BrownClockModel" "spot" "I") (List.mem_of_getElem? (i := 1) rfl)) (fun _ h9 => h9) rfl dX10_number_112 ?_
                            refine lv_iconst (v := 1) hx hb dX10_number_115 (by decide) ?_
                            refine k_iadd (v := (nI (pos + 1 + 1))) hx hb dX10_number_116 (nI_add (pos + 1) (1)) ?_
                            refine va_put (D := D) (ci := 9) (v := .int (nI (pos + 1 + 1))) (ty := .int) (C := RX10) (T := TX10) (N := 15) hx hb hts i_X10 tyX10 tyX10_ok nmX10 hown hK hP hD hS 0 rfl rfl 3 (by decide) (hts (Cond.fieldLink RX10 102 "BrownClockModel" "spot" "I") (List.mem_of_getElem? (i := 1) rfl)) (fun _ h9 => h9) rfl (by decide +kernel) rfl rfl (Nat.le_of_ble_eq_true rfl) dX10_number_117 (fun H locs hP hD hS => ?_)
                            have hP : va_P D vwCl (fl [[ob (b 0) 9 [.int rf, .ref (b 1), .int (nI ln), .int (nI (pos + 1 + 1)), .ref (b 2), .ref (b 3), .ref (b 4), .ref (b 5), .int ac, .ref (b 6), .ref (b 7), .ref (b 8), .ref (b 9), .ref (b 10), .ref (b 11)]], [ia ty (b 1) 60 cd]]) H := hP
                            have hD : va_D A (fl [[ob (b 0) 9 [.int rf, .ref (b 1), .int (nI ln), .int (nI (pos + 1 + 1)), .ref (b 2), .ref (b 3), .ref (b 4), .ref (b 5), .int ac, .ref (b 6), .ref (b 7), .ref (b 8), .ref (b 9), .ref (b 10), .ref (b 11)]], [ia ty (b 1) 60 cd]]) := hD
                            refine lv_goto (tgt := 36) hx hb dX10_number_120 (by decide) ?_
                            refine lv_iload_n hx hb dX10_number_36 rfl (lv_at hl 0 rfl) ?_
                            refine lv_if_le (tgt := 123) hx hb dX10_number_37 (by decide) (fun c_26 => ?_) (fun c_26 => ?_)
                            · skip
                              refine lv_iload hx hb dX10_number_123 (lv_at hl 1 rfl) ?_
                              have hz2_0 := neq_of (a := 2) (b := 4) (by omega) (by omega) c_1
                              have hz13_1 := neq_of (a := 2) (b := 3) (by omega) (by omega) c_2
                              have hz23_2 := (nI_eq (a := 2) (b := 2) (by omega) (by omega)).mp c_3
                              have hz37_3 := nle_of (a := 10) (b := 0) (by omega) (by omega) c_4
                              have hz48_4 := nle_of (a := ln) (b := pos) (by omega) (by omega) c_5
                              have hz90_6 := (nI_leI (a := 0 + digN cd pos * 10) (b := hi9) (by omega) (by omega)).mp c_14
                              have hz37_7 := nle_of (a := 1) (b := 0) (by omega) (by omega) c_15
                              have hz48_8 := nle_of (a := ln) (b := pos + 1) (by omega) (by omega) c_16
                              have hz90_10 := (nI_leI (a := 0 + digN cd pos * 10 + (digN cd (pos + 1) * 1)) (b := hi9) (by omega) (by omega)).mp c_25
                              have hz37_11 := (nI_leI (a := 0) (b := 0) (by omega) (by omega)).mp c_26
                              have hv1 : numV cd ln [10, 1] hi9 0 pos = _ := (numV_y ⟨hd_0, by omega⟩).1.trans ((numV_y ⟨hd_1, by omega⟩).1)
                              have hv2 : numP cd ln [10, 1] hi9 0 pos = _ := (numV_y ⟨hd_0, by omega⟩).2.trans ((numV_y ⟨hd_1, by omega⟩).2)
                              have hP : va_P D vwCl (fl [[ob (b 0) 9 [.int rf, .ref (b 1), .int (nI ln), .int (nI (numP cd ln [10, 1] hi9 0 pos)), .ref (b 2), .ref (b 3), .ref (b 4), .ref (b 5), .int ac, .ref (b 6), .ref (b 7), .ref (b 8), .ref (b 9), .ref (b 10), .ref (b 11)]], [ia ty (b 1) 60 cd]]) H := by rw [hv2]; exact hP
                              have hD : va_D A (fl [[ob (b 0) 9 [.int rf, .ref (b 1), .int (nI ln), .int (nI (numP cd ln [10, 1] hi9 0 pos)), .ref (b 2), .ref (b 3), .ref (b 4), .ref (b 5), .int ac, .ref (b 6), .ref (b 7), .ref (b 8), .ref (b 9), .ref (b 10), .ref (b 11)]], [ia ty (b 1) 60 cd]]) := (D_same2 hD [(b 0), (b 1)] rfl rfl)
                              exact end_i (bs' := (fun (_ : Unit) => [[ob (b 0) 9 [.int rf, .ref (b 1), .int (nI ln), .int (nI (numP cd ln [10, 1] hi9 0 pos)), .ref (b 2), .ref (b 3), .ref (b 4), .ref (b 5), .int ac, .ref (b 6), .ref (b 7), .ref (b 8), .ref (b 9), .ref (b 10), .ref (b 11)]], [ia ty (b 1) 60 cd]])) () hx hb hr hlocks hP hD hS (by rw [hv1]; rfl) (Nat.le_of_ble_eq_true rfl) (Nat.le_of_ble_eq_true rfl) dX10_number_125
                            · exact absurd (by decide) c_26
                          · skip
                            refine lv_ldc hx hb hown (hts (Cond.constant RX10 53 (-99999999)) (List.mem_of_getElem? (i := 5) rfl)) dX10_number_93 ?_
                            have hz2_0 := neq_of (a := 2) (b := 4) (by omega) (by omega) c_1
                            have hz13_1 := neq_of (a := 2) (b := 3) (by omega) (by omega) c_2
                            have hz23_2 := (nI_eq (a := 2) (b := 2) (by omega) (by omega)).mp c_3
                            have hz37_3 := nle_of (a := 10) (b := 0) (by omega) (by omega) c_4
                            have hz48_4 := nle_of (a := ln) (b := pos) (by omega) (by omega) c_5
                            have hz90_6 := (nI_leI (a := 0 + digN cd pos * 10) (b := hi9) (by omega) (by omega)).mp c_14
                            have hz37_7 := nle_of (a := 1) (b := 0) (by omega) (by omega) c_15
                            have hz48_8 := nle_of (a := ln) (b := pos + 1) (by omega) (by omega) c_16
                            have hz90_10 := nle_of (a := 0 + digN cd pos * 10 + (digN cd (pos + 1) * 1)) (b := hi9) (by omega) (by omega) c_25
                            have hv1 : numV cd ln [10, 1] hi9 0 pos = _ := (numV_y ⟨hd_0, by omega⟩).1.trans ((numV_n (fun q => by first | exact hd_1 q.1 | omega)).1)
                            have hv2 : numP cd ln [10, 1] hi9 0 pos = _ := (numV_y ⟨hd_0, by omega⟩).2.trans ((numV_n (fun q => by first | exact hd_1 q.1 | omega)).2)
                            have hP : va_P D vwCl (fl [[ob (b 0) 9 [.int rf, .ref (b 1), .int (nI ln), .int (nI (numP cd ln [10, 1] hi9 0 pos)), .ref (b 2), .ref (b 3), .ref (b 4), .ref (b 5), .int ac, .ref (b 6), .ref (b 7), .ref (b 8), .ref (b 9), .ref (b 10), .ref (b 11)]], [ia ty (b 1) 60 cd]]) H := by rw [hv2]; exact hP
                            have hD : va_D A (fl [[ob (b 0) 9 [.int rf, .ref (b 1), .int (nI ln), .int (nI (numP cd ln [10, 1] hi9 0 pos)), .ref (b 2), .ref (b 3), .ref (b 4), .ref (b 5), .int ac, .ref (b 6), .ref (b 7), .ref (b 8), .ref (b 9), .ref (b 10), .ref (b 11)]], [ia ty (b 1) 60 cd]]) := (D_same2 hD [(b 0), (b 1)] rfl rfl)
                            exact end_i (bs' := (fun (_ : Unit) => [[ob (b 0) 9 [.int rf, .ref (b 1), .int (nI ln), .int (nI (numP cd ln [10, 1] hi9 0 pos)), .ref (b 2), .ref (b 3), .ref (b 4), .ref (b 5), .int ac, .ref (b 6), .ref (b 7), .ref (b 8), .ref (b 9), .ref (b 10), .ref (b 11)]], [ia ty (b 1) 60 cd]])) () hx hb hr hlocks hP hD hS (by rw [hv1]; rfl) (Nat.le_of_ble_eq_true rfl) (Nat.le_of_ble_eq_true rfl) dX10_number_95
                      · have hiv := inv_nd (by omega) hd_1
                        refine lv_istore (lv' := [(5, .int ((cd (pos + 1)) - 48)), (3, .int 1), (4, .int (nI (0 + digN cd pos * 10))), (0, .ref (b 0)), (1, .int 2), (2, .int (nI hi9))]) hx hb dX10_number_67 hl (by decide) rfl (fun ls hl => ?_)
                        refine lv_iload hx hb dX10_number_69 (lv_at hl 0 rfl) ?_
                        refine lv_i2l (v := (Int32.toInt64 ((cd (pos + 1)) - 48))) hx hb dX10_number_71 rfl ?_
                        refine lv_lconst (v := 0) hx hb dX10_number_72 (by decide) ?_
                        refine lv_ldc2 hx hb hown (hts (Cond.constantLong RX10 105 (9)) (List.mem_of_getElem? (i := 4) rfl)) dX10_number_73 ?_
                        refine cSi (As := [.long (Int32.toInt64 ((cd (pos + 1)) - 48)), .long 0, .long 9]) (rest := []) ⟨hx, hb, hml, hown, hts⟩ (c_X10_in l D ty (Int32.toInt64 ((cd (pos + 1)) - 48)) 0 9) (va_cwS 3 hts gX10_number_X10_in rfl rfl rfl (by decide +kernel) ⟨Nat.le_of_ble_eq_true rfl, Nat.le_of_ble_eq_true rfl⟩) hK hX hP hD hS hA (pk (bs := [[ob (b 0) 9 [.int rf, .ref (b 1), .int (nI ln), .int (nI (pos + 1)), .ref (b 2), .ref (b 3), .ref (b 4), .ref (b 5), .int ac, .ref (b 6), .ref (b 7), .ref (b 8), .ref (b 9), .ref (b 10), .ref (b 11)]], [ia ty (b 1) 60 cd]]) (bsc := []) (bsr := [[ob (b 0) 9 [.int rf, .ref (b 1), .int (nI ln), .int (nI (pos + 1)), .ref (b 2), .ref (b 3), .ref (b 4), .ref (b 5), .int ac, .ref (b 6), .ref (b 7), .ref (b 8), .ref (b 9), .ref (b 10), .ref (b 11)]], [ia ty (b 1) 60 cd]]) [] [0, 1] 2 rfl (by decide +kernel) rfl rfl) rfl hl.1 rfl (Nat.le_of_ble_eq_true rfl) dX10_number_76 ⟨Nat.le_of_ble_eq_true rfl, Nat.le_of_ble_eq_true rfl⟩ (fun r_28 u_27 h_29 H locs hP hD hS => ?_)
                        have h_29 : r_28 = (inv (Int32.toInt64 ((cd (pos + 1)) - 48)) 0 9) := h_29
                        subst h_29
                        have hP : va_P D vwCl (fl [[ob (b 0) 9 [.int rf, .ref (b 1), .int (nI ln), .int (nI (pos + 1)), .ref (b 2), .ref (b 3), .ref (b 4), .ref (b 5), .int ac, .ref (b 6), .ref (b 7), .ref (b 8), .ref (b 9), .ref (b 10), .ref (b 11)]], [ia ty (b 1) 60 cd]]) H := P_perm (po (bs := [[ob (b 0) 9 [.int rf, .ref (b 1), .int (nI ln), .int (nI (pos + 1)), .ref (b 2), .ref (b 3), .ref (b 4), .ref (b 5), .int ac, .ref (b 6), .ref (b 7), .ref (b 8), .ref (b 9), .ref (b 10), .ref (b 11)]], [ia ty (b 1) 60 cd]]) [0, 1] 2 rfl (by decide +kernel) rfl) hP
                        have hD : va_D A (fl [[ob (b 0) 9 [.int rf, .ref (b 1), .int (nI ln), .int (nI (pos + 1)), .ref (b 2), .ref (b 3), .ref (b 4), .ref (b 5), .int ac, .ref (b 6), .ref (b 7), .ref (b 8), .ref (b 9), .ref (b 10), .ref (b 11)]], [ia ty (b 1) 60 cd]]) := D_perm (po (bs := [[ob (b 0) 9 [.int rf, .ref (b 1), .int (nI ln), .int (nI (pos + 1)), .ref (b 2), .ref (b 3), .ref (b 4), .ref (b 5), .int ac, .ref (b 6), .ref (b 7), .ref (b 8), .ref (b 9), .ref (b 10), .ref (b 11)]], [ia ty (b 1) 60 cd]]) [0, 1] 2 rfl (by decide +kernel) rfl) hD
                        refine lv_if_eq (tgt := 93) hx hb dX10_number_79 (by decide) (fun c_30 => ?_) (fun c_30 => ?_)
                        · skip
                          refine lv_ldc hx hb hown (hts (Cond.constant RX10 53 (-99999999)) (List.mem_of_getElem? (i := 5) rfl)) dX10_number_93 ?_
                          have hz2_0 := neq_of (a := 2) (b := 4) (by omega) (by omega) c_1
                          have hz13_1 := neq_of (a := 2) (b := 3) (by omega) (by omega) c_2
                          have hz23_2 := (nI_eq (a := 2) (b := 2) (by omega) (by omega)).mp c_3
                          have hz37_3 := nle_of (a := 10) (b := 0) (by omega) (by omega) c_4
                          have hz48_4 := nle_of (a := ln) (b := pos) (by omega) (by omega) c_5
                          have hz90_6 := (nI_leI (a := 0 + digN cd pos * 10) (b := hi9) (by omega) (by omega)).mp c_14
                          have hz37_7 := nle_of (a := 1) (b := 0) (by omega) (by omega) c_15
                          have hz48_8 := nle_of (a := ln) (b := pos + 1) (by omega) (by omega) c_16
                          have hv1 : numV cd ln [10, 1] hi9 0 pos = _ := (numV_y ⟨hd_0, by omega⟩).1.trans ((numV_n (fun q => by first | exact hd_1 q.1 | omega)).1)
                          have hv2 : numP cd ln [10, 1] hi9 0 pos = _ := (numV_y ⟨hd_0, by omega⟩).2.trans ((numV_n (fun q => by first | exact hd_1 q.1 | omega)).2)
                          have hP : va_P D vwCl (fl [[ob (b 0) 9 [.int rf, .ref (b 1), .int (nI ln), .int (nI (numP cd ln [10, 1] hi9 0 pos)), .ref (b 2), .ref (b 3), .ref (b 4), .ref (b 5), .int ac, .ref (b 6), .ref (b 7), .ref (b 8), .ref (b 9), .ref (b 10), .ref (b 11)]], [ia ty (b 1) 60 cd]]) H := by rw [hv2]; exact hP
                          have hD : va_D A (fl [[ob (b 0) 9 [.int rf, .ref (b 1), .int (nI ln), .int (nI (numP cd ln [10, 1] hi9 0 pos)), .ref (b 2), .ref (b 3), .ref (b 4), .ref (b 5), .int ac, .ref (b 6), .ref (b 7), .ref (b 8), .ref (b 9), .ref (b 10), .ref (b 11)]], [ia ty (b 1) 60 cd]]) := (D_same2 hD [(b 0), (b 1)] rfl rfl)
                          exact end_i (bs' := (fun (_ : Unit) => [[ob (b 0) 9 [.int rf, .ref (b 1), .int (nI ln), .int (nI (numP cd ln [10, 1] hi9 0 pos)), .ref (b 2), .ref (b 3), .ref (b 4), .ref (b 5), .int ac, .ref (b 6), .ref (b 7), .ref (b 8), .ref (b 9), .ref (b 10), .ref (b 11)]], [ia ty (b 1) 60 cd]])) () hx hb hr hlocks hP hD hS (by rw [hv1]; rfl) (Nat.le_of_ble_eq_true rfl) (Nat.le_of_ble_eq_true rfl) dX10_number_95
                        · first | exact absurd c_30 hiv | exact absurd hiv c_30
                · skip
                  refine lv_ldc hx hb hown (hts (Cond.constant RX10 53 (-99999999)) (List.mem_of_getElem? (i := 5) rfl)) dX10_number_93 ?_
                  have hz2_0 := neq_of (a := 2) (b := 4) (by omega) (by omega) c_1
                  have hz13_1 := neq_of (a := 2) (b := 3) (by omega) (by omega) c_2
                  have hz23_2 := (nI_eq (a := 2) (b := 2) (by omega) (by omega)).mp c_3
                  have hz37_3 := nle_of (a := 10) (b := 0) (by omega) (by omega) c_4
                  have hz48_4 := nle_of (a := ln) (b := pos) (by omega) (by omega) c_5
                  have hz90_6 := nle_of (a := 0 + digN cd pos * 10) (b := hi9) (by omega) (by omega) c_14
                  have hv1 : numV cd ln [10, 1] hi9 0 pos = _ := (numV_n (fun q => by first | exact hd_0 q.1 | omega)).1
                  have hv2 : numP cd ln [10, 1] hi9 0 pos = _ := (numV_n (fun q => by first | exact hd_0 q.1 | omega)).2
                  have hP : va_P D vwCl (fl [[ob (b 0) 9 [.int rf, .ref (b 1), .int (nI ln), .int (nI (numP cd ln [10, 1] hi9 0 pos)), .ref (b 2), .ref (b 3), .ref (b 4), .ref (b 5), .int ac, .ref (b 6), .ref (b 7), .ref (b 8), .ref (b 9), .ref (b 10), .ref (b 11)]], [ia ty (b 1) 60 cd]]) H := by rw [hv2]; exact hP
                  have hD : va_D A (fl [[ob (b 0) 9 [.int rf, .ref (b 1), .int (nI ln), .int (nI (numP cd ln [10, 1] hi9 0 pos)), .ref (b 2), .ref (b 3), .ref (b 4), .ref (b 5), .int ac, .ref (b 6), .ref (b 7), .ref (b 8), .ref (b 9), .ref (b 10), .ref (b 11)]], [ia ty (b 1) 60 cd]]) := (D_same2 hD [(b 0), (b 1)] rfl rfl)
                  exact end_i (bs' := (fun (_ : Unit) => [[ob (b 0) 9 [.int rf, .ref (b 1), .int (nI ln), .int (nI (numP cd ln [10, 1] hi9 0 pos)), .ref (b 2), .ref (b 3), .ref (b 4), .ref (b 5), .int ac, .ref (b 6), .ref (b 7), .ref (b 8), .ref (b 9), .ref (b 10), .ref (b 11)]], [ia ty (b 1) 60 cd]])) () hx hb hr hlocks hP hD hS (by rw [hv1]; rfl) (Nat.le_of_ble_eq_true rfl) (Nat.le_of_ble_eq_true rfl) dX10_number_95
            · have hiv := inv_nd (by omega) hd_0
              refine lv_istore (lv' := [(5, .int ((cd pos) - 48)), (4, .int 0), (3, .int 10), (0, .ref (b 0)), (1, .int 2), (2, .int (nI hi9))]) hx hb dX10_number_67 hl (by decide) rfl (fun ls hl => ?_)
              refine lv_iload hx hb dX10_number_69 (lv_at hl 0 rfl) ?_
              refine lv_i2l (v := (Int32.toInt64 ((cd pos) - 48))) hx hb dX10_number_71 rfl ?_
              refine lv_lconst (v := 0) hx hb dX10_number_72 (by decide) ?_
              refine lv_ldc2 hx hb hown (hts (Cond.constantLong RX10 105 (9)) (List.mem_of_getElem? (i := 4) rfl)) dX10_number_73 ?_
              refine cSi (As := [.long (Int32.toInt64 ((cd pos) - 48)), .long 0, .long 9]) (rest := []) ⟨hx, hb, hml, hown, hts⟩ (c_X10_in l D ty (Int32.toInt64 ((cd pos) - 48)) 0 9) (va_cwS 3 hts gX10_number_X10_in rfl rfl rfl (by decide +kernel) ⟨Nat.le_of_ble_eq_true rfl, Nat.le_of_ble_eq_true rfl⟩) hK hX hP hD hS hA (pk (bs := [[ob (b 0) 9 [.int rf, .ref (b 1), .int (nI ln), .int (nI pos), .ref (b 2), .ref (b 3), .ref (b 4), .ref (b 5), .int ac, .ref (b 6), .ref (b 7), .ref (b 8), .ref (b 9), .ref (b 10), .ref (b 11)]], [ia ty (b 1) 60 cd]]) (bsc := []) (bsr := [[ob (b 0) 9 [.int rf, .ref (b 1), .int (nI ln), .int (nI pos), .ref (b 2), .ref (b 3), .ref (b 4), .ref (b 5), .int ac, .ref (b 6), .ref (b 7), .ref (b 8), .ref (b 9), .ref (b 10), .ref (b 11)]], [ia ty (b 1) 60 cd]]) [] [0, 1] 2 rfl (by decide +kernel) rfl rfl) rfl hl.1 rfl (Nat.le_of_ble_eq_true rfl) dX10_number_76 ⟨Nat.le_of_ble_eq_true rfl, Nat.le_of_ble_eq_true rfl⟩ (fun r_32 u_31 h_33 H locs hP hD hS => ?_)
              have h_33 : r_32 = (inv (Int32.toInt64 ((cd pos) - 48)) 0 9) := h_33
              subst h_33
              have hP : va_P D vwCl (fl [[ob (b 0) 9 [.int rf, .ref (b 1), .int (nI ln), .int (nI pos), .ref (b 2), .ref (b 3), .ref (b 4), .ref (b 5), .int ac, .ref (b 6), .ref (b 7), .ref (b 8), .ref (b 9), .ref (b 10), .ref (b 11)]], [ia ty (b 1) 60 cd]]) H := P_perm (po (bs := [[ob (b 0) 9 [.int rf, .ref (b 1), .int (nI ln), .int (nI pos), .ref (b 2), .ref (b 3), .ref (b 4), .ref (b 5), .int ac, .ref (b 6), .ref (b 7), .ref (b 8), .ref (b 9), .ref (b 10), .ref (b 11)]], [ia ty (b 1) 60 cd]]) [0, 1] 2 rfl (by decide +kernel) rfl) hP
              have hD : va_D A (fl [[ob (b 0) 9 [.int rf, .ref (b 1), .int (nI ln), .int (nI pos), .ref (b 2), .ref (b 3), .ref (b 4), .ref (b 5), .int ac, .ref (b 6), .ref (b 7), .ref (b 8), .ref (b 9), .ref (b 10), .ref (b 11)]], [ia ty (b 1) 60 cd]]) := D_perm (po (bs := [[ob (b 0) 9 [.int rf, .ref (b 1), .int (nI ln), .int (nI pos), .ref (b 2), .ref (b 3), .ref (b 4), .ref (b 5), .int ac, .ref (b 6), .ref (b 7), .ref (b 8), .ref (b 9), .ref (b 10), .ref (b 11)]], [ia ty (b 1) 60 cd]]) [0, 1] 2 rfl (by decide +kernel) rfl) hD
              refine lv_if_eq (tgt := 93) hx hb dX10_number_79 (by decide) (fun c_34 => ?_) (fun c_34 => ?_)
              · skip
                refine lv_ldc hx hb hown (hts (Cond.constant RX10 53 (-99999999)) (List.mem_of_getElem? (i := 5) rfl)) dX10_number_93 ?_
                have hz2_0 := neq_of (a := 2) (b := 4) (by omega) (by omega) c_1
                have hz13_1 := neq_of (a := 2) (b := 3) (by omega) (by omega) c_2
                have hz23_2 := (nI_eq (a := 2) (b := 2) (by omega) (by omega)).mp c_3
                have hz37_3 := nle_of (a := 10) (b := 0) (by omega) (by omega) c_4
                have hz48_4 := nle_of (a := ln) (b := pos) (by omega) (by omega) c_5
                have hv1 : numV cd ln [10, 1] hi9 0 pos = _ := (numV_n (fun q => by first | exact hd_0 q.1 | omega)).1
                have hv2 : numP cd ln [10, 1] hi9 0 pos = _ := (numV_n (fun q => by first | exact hd_0 q.1 | omega)).2
                have hP : va_P D vwCl (fl [[ob (b 0) 9 [.int rf, .ref (b 1), .int (nI ln), .int (nI (numP cd ln [10, 1] hi9 0 pos)), .ref (b 2), .ref (b 3), .ref (b 4), .ref (b 5), .int ac, .ref (b 6), .ref (b 7), .ref (b 8), .ref (b 9), .ref (b 10), .ref (b 11)]], [ia ty (b 1) 60 cd]]) H := by rw [hv2]; exact hP
                have hD : va_D A (fl [[ob (b 0) 9 [.int rf, .ref (b 1), .int (nI ln), .int (nI (numP cd ln [10, 1] hi9 0 pos)), .ref (b 2), .ref (b 3), .ref (b 4), .ref (b 5), .int ac, .ref (b 6), .ref (b 7), .ref (b 8), .ref (b 9), .ref (b 10), .ref (b 11)]], [ia ty (b 1) 60 cd]]) := (D_same2 hD [(b 0), (b 1)] rfl rfl)
                exact end_i (bs' := (fun (_ : Unit) => [[ob (b 0) 9 [.int rf, .ref (b 1), .int (nI ln), .int (nI (numP cd ln [10, 1] hi9 0 pos)), .ref (b 2), .ref (b 3), .ref (b 4), .ref (b 5), .int ac, .ref (b 6), .ref (b 7), .ref (b 8), .ref (b 9), .ref (b 10), .ref (b 11)]], [ia ty (b 1) 60 cd]])) () hx hb hr hlocks hP hD hS (by rw [hv1]; rfl) (Nat.le_of_ble_eq_true rfl) (Nat.le_of_ble_eq_true rfl) dX10_number_95
              · first | exact absurd c_34 hiv | exact absurd hiv c_34
    · first | exact absurd c_2 (by decide) | exact absurd (by decide) c_2
  · first | exact absurd c_1 (by decide) | exact absurd (by decide) c_1
