set_option maxHeartbeats 4000000 in
set_option maxRecDepth 100000 in
theorem c_X8_readNumber2 (l : Launch) (D : va_G) (ty : Nat → ClassId) (h cod told : Nat) (cd : Nat → Int32) (ln pos na np nr : Nat) (hi9 : Nat) (hl6 : ln ≤ 60) (hp6 : pos < 1000) (hh9 : hi9 < 100000) : CTi l yX8_readNumber wsX8_readNumber ({ frames := 2, cells := 0, slots := 0, locals := 41 }) D ty [.ref h, .int 10, .int (nI hi9)] [[ob h 7 [.ref cod, .int (nI ln), .int (nI pos), .int (nI na), .int (nI np), .int (nI nr), .ref told]], [ia ty cod 60 cd]] (fun (RET : Int32) (_ : Unit) => RET = (onV (numV cd ln [10, 1] hi9 0 pos))) (fun (_ : Unit) => [[ob h 7 [.ref cod, .int (nI ln), .int (nI (numP cd ln [10, 1] hi9 0 pos)), .int (nI na), .int (nI np), .int (nI nr), .ref told]], [ia ty cod 60 cd]]) := by
  refine CTi_of cX8_readNumber 6 (some .int) (by decide) rfl (Nat.le_of_ble_eq_true rfl) ?_
  intro p e s m args below meth c A hx hb hr hml hown hlocks hin hts hA hX hK hP hD ls hl
  have hown : s.vm.findClass RX8 = some m.cls := hown
  have hS : va_S A s.heap s.heap [] := va_S.rf
  have i_X8 : ∀ z ∈ wsX80, z ∈ wsX8_readNumber := fun z h => List.mem_cons_of_mem _ (List.mem_append_right _ h)
  have hl : lv_has ls 6 [(0, .ref h), (1, .int 10), (2, .int (nI hi9))] := hl
  refine lv_iconst (v := 0) hx hb dX8_readNumber_0 (by decide) ?_
  refine lv_istore_n (lv' := [(3, .int 0), (0, .ref h), (1, .int 10), (2, .int (nI hi9))]) hx hb dX8_readNumber_1 rfl hl (by decide) rfl (fun ls hl => ?_)
  refine lv_iload_n hx hb dX8_readNumber_2 rfl (lv_at hl 2 rfl) ?_
  refine lv_istore (lv' := [(4, .int 10), (3, .int 0), (0, .ref h), (1, .int 10), (2, .int (nI hi9))]) hx hb dX8_readNumber_3 hl (by decide) rfl (fun ls hl => ?_)
  refine lv_iload hx hb dX8_readNumber_5 (lv_at hl 0 rfl) ?_
  refine lv_if_le (tgt := 65) hx hb dX8_readNumber_7 (by decide) (fun c_1 => ?_) (fun c_1 => ?_)
  · exact absurd c_1 (by decide)
  · skip
    refine lv_aload_n hx hb dX8_readNumber_10 rfl (lv_at hl 2 rfl) ?_
    refine cVi (As := []) (rest := []) ⟨hx, hb, hml, hown, hts⟩ (c_X8_digitHere l D ty h cod told cd ln pos na np nr (hl6) (by omega)) (cwV 0 hts gX8_readNumber_X8_digitHere rfl rfl rfl (by decide +kernel) ⟨Nat.le_of_ble_eq_true rfl, Nat.le_of_ble_eq_true rfl⟩) hK hX hP hD hS hA (pk (bs := [[ob h 7 [.ref cod, .int (nI ln), .int (nI pos), .int (nI na), .int (nI np), .int (nI nr), .ref told]], [ia ty cod 60 cd]]) (bsc := [[ob h 7 [.ref cod, .int (nI ln), .int (nI pos), .int (nI na), .int (nI np), .int (nI nr), .ref told]], [ia ty cod 60 cd]]) (bsr := []) [0, 1] [] 2 rfl (by decide +kernel) rfl rfl) (ci := 7) rfl 0 rfl rfl hl.1 rfl (Nat.le_of_ble_eq_true rfl) dX8_readNumber_11 ⟨Nat.le_of_ble_eq_true rfl, Nat.le_of_ble_eq_true rfl⟩ (fun r_3 u_2 h_4 H locs hP hD hS => ?_)
    have h_4 : r_3 = (if isDig cd ln pos then nI (digN cd pos) else -99999999) := h_4
    subst h_4
    have hP : va_P D vwCl (fl [[ob h 7 [.ref cod, .int (nI ln), .int (nI pos), .int (nI na), .int (nI np), .int (nI nr), .ref told]], [ia ty cod 60 cd]]) H := P_perm (po (bs := [[ob h 7 [.ref cod, .int (nI ln), .int (nI pos), .int (nI na), .int (nI np), .int (nI nr), .ref told]], [ia ty cod 60 cd]]) [0, 1] 2 rfl (by decide +kernel) rfl) hP
    have hD : va_D A (fl [[ob h 7 [.ref cod, .int (nI ln), .int (nI pos), .int (nI na), .int (nI np), .int (nI nr), .ref told]], [ia ty cod 60 cd]]) := D_perm (po (bs := [[ob h 7 [.ref cod, .int (nI ln), .int (nI pos), .int (nI na), .int (nI np), .int (nI nr), .ref told]], [ia ty cod 60 cd]]) [0, 1] 2 rfl (by decide +kernel) rfl) hD
    rcases Classical.em (isDig cd ln pos) with hd_1 | hd_1
    · have hd9 := (dig_nI hd_1).2
      refine W.eq (g2 := F0 m 14 ls [.int (nI (digN cd pos))]) (by rw [if_pos hd_1]) ?_
      refine lv_istore (lv' := [(5, .int (nI (digN cd pos))), (4, .int 10), (3, .int 0), (0, .ref h), (1, .int 10), (2, .int (nI hi9))]) hx hb dX8_readNumber_14 hl (by decide) rfl (fun ls hl => ?_)
      refine lv_iload hx hb dX8_readNumber_16 (lv_at hl 0 rfl) ?_
      refine lv_ldc hx hb hown (hts (Cond.constant RX8 41 (-99999999)) (List.mem_of_getElem? (i := 1) rfl)) dX8_readNumber_18 ?_
      refine lv_icmp_eq (tgt := 34) hx hb dX8_readNumber_20 (by decide) (fun c_5 => ?_) (fun c_5 => ?_)
      · first | exact absurd c_5 (nI_nn (n := digN cd pos) (by omega)) | exact absurd (nI_nn (n := digN cd pos) (by omega)) c_5
      · skip
        refine lv_iload_n hx hb dX8_readNumber_23 rfl (lv_at hl 2 rfl) ?_
        refine lv_iload hx hb dX8_readNumber_24 (lv_at hl 0 rfl) ?_
        refine lv_iload hx hb dX8_readNumber_26 (lv_at hl 1 rfl) ?_
        refine k_imul (v := (nI (digN cd pos * 10))) hx hb dX8_readNumber_28 (nI_mul (digN cd pos) (10)) ?_
        refine k_iadd (v := (nI (0 + digN cd pos * 10))) hx hb dX8_readNumber_29 (nI_add (0) (digN cd pos * 10)) ?_
        refine lv_iload_n hx hb dX8_readNumber_30 rfl (lv_at hl 5 rfl) ?_
        refine lv_icmp_le (tgt := 37) hx hb dX8_readNumber_31 (by decide) (fun c_6 => ?_) (fun c_6 => ?_)
        · skip
          refine lv_iload_n hx hb dX8_readNumber_37 rfl (lv_at hl 2 rfl) ?_
          refine lv_iload hx hb dX8_readNumber_38 (lv_at hl 0 rfl) ?_
          refine lv_iload hx hb dX8_readNumber_40 (lv_at hl 1 rfl) ?_
          refine k_imul (v := (nI (digN cd pos * 10))) hx hb dX8_readNumber_42 (nI_mul (digN cd pos) (10)) ?_
          refine k_iadd (v := (nI (0 + digN cd pos * 10))) hx hb dX8_readNumber_43 (nI_add (0) (digN cd pos * 10)) ?_
          refine lv_istore_n (lv' := [(3, .int (nI (0 + digN cd pos * 10))), (5, .int (nI (digN cd pos))), (4, .int 10), (0, .ref h), (1, .int 10), (2, .int (nI hi9))]) hx hb dX8_readNumber_44 rfl hl (by decide) rfl (fun ls hl => ?_)
          refine lv_aload_n hx hb dX8_readNumber_45 rfl (lv_at hl 3 rfl) ?_
          refine lv_dup hx hb dX8_readNumber_46 rfl ?_
          refine va_get (D := D) (ci := 7) (v := .int (nI pos)) (C := RX8) (T := TX8) (N := 7) hx hb hts i_X8 hown hK hP 0 rfl rfl 2 (by decide) (hts (Cond.fieldLink RX8 35 "BrownClock$Text" "position" "I") (List.mem_of_getElem? (i := 2) rfl)) (fun _ h9 => h9) rfl dX8_readNumber_47 ?_
          refine lv_iconst (v := 1) hx hb dX8_readNumber_50 (by decide) ?_
          refine k_iadd (v := (nI (pos + 1))) hx hb dX8_readNumber_51 (nI_add (pos) (1)) ?_
          refine va_put (D := D) (ci := 7) (v := .int (nI (pos + 1))) (ty := .int) (C := RX8) (T := TX8) (N := 7) hx hb hts i_X8 tyX8 tyX8_ok nmX8 hown hK hP hD hS 0 rfl rfl 2 (by decide) (hts (Cond.fieldLink RX8 35 "BrownClock$Text" "position" "I") (List.mem_of_getElem? (i := 2) rfl)) (fun _ h9 => h9) rfl (by decide +kernel) rfl rfl (Nat.le_of_ble_eq_true rfl) dX8_readNumber_52 (fun H locs hP hD hS => ?_)
          have hP : va_P D vwCl (fl [[ob h 7 [.ref cod, .int (nI ln), .int (nI (pos + 1)), .int (nI na), .int (nI np), .int (nI nr), .ref told]], [ia ty cod 60 cd]]) H := hP
          have hD : va_D A (fl [[ob h 7 [.ref cod, .int (nI ln), .int (nI (pos + 1)), .int (nI na), .int (nI np), .int (nI nr), .ref told]], [ia ty cod 60 cd]]) := hD
          refine lv_iload hx hb dX8_readNumber_55 (lv_at hl 2 rfl) ?_
          refine lv_bipush (v := 10) hx hb dX8_readNumber_57 (by decide) ?_
          refine k_idiv (v := 1) hx hb dX8_readNumber_59 (by decide) (by decide) ?_
          refine lv_istore (lv' := [(4, .int 1), (3, .int (nI (0 + digN cd pos * 10))), (5, .int (nI (digN cd pos))), (0, .ref h), (1, .int 10), (2, .int (nI hi9))]) hx hb dX8_readNumber_60 hl (by decide) rfl (fun ls hl => ?_)
          refine lv_goto (tgt := 5) hx hb dX8_readNumber_62 (by decide) ?_
          refine lv_iload hx hb dX8_readNumber_5 (lv_at hl 0 rfl) ?_
          refine lv_if_le (tgt := 65) hx hb dX8_readNumber_7 (by decide) (fun c_7 => ?_) (fun c_7 => ?_)
          · exact absurd c_7 (by decide)
          · skip
            refine lv_aload_n hx hb dX8_readNumber_10 rfl (lv_at hl 3 rfl) ?_
            refine cVi (As := []) (rest := []) ⟨hx, hb, hml, hown, hts⟩ (c_X8_digitHere l D ty h cod told cd ln (pos + 1) na np nr (hl6) (by omega)) (cwV 0 hts gX8_readNumber_X8_digitHere rfl rfl rfl (by decide +kernel) ⟨Nat.le_of_ble_eq_true rfl, Nat.le_of_ble_eq_true rfl⟩) hK hX hP hD hS hA (pk (bs := [[ob h 7 [.ref cod, .int (nI ln), .int (nI (pos + 1)), .int (nI na), .int (nI np), .int (nI nr), .ref told]], [ia ty cod 60 cd]]) (bsc := [[ob h 7 [.ref cod, .int (nI ln), .int (nI (pos + 1)), .int (nI na), .int (nI np), .int (nI nr), .ref told]], [ia ty cod 60 cd]]) (bsr := []) [0, 1] [] 2 rfl (by decide +kernel) rfl rfl) (ci := 7) rfl 0 rfl rfl hl.1 rfl (Nat.le_of_ble_eq_true rfl) dX8_readNumber_11 ⟨Nat.le_of_ble_eq_true rfl, Nat.le_of_ble_eq_true rfl⟩ (fun r_9 u_8 h_10 H locs hP hD hS => ?_)
            have h_10 : r_9 = (if isDig cd ln (pos + 1) then nI (digN cd (pos + 1)) else -99999999) := h_10
            subst h_10
            have hP : va_P D vwCl (fl [[ob h 7 [.ref cod, .int (nI ln), .int (nI (pos + 1)), .int (nI na), .int (nI np), .int (nI nr), .ref told]], [ia ty cod 60 cd]]) H := P_perm (po (bs := [[ob h 7 [.ref cod, .int (nI ln), .int (nI (pos + 1)), .int (nI na), .int (nI np), .int (nI nr), .ref told]], [ia ty cod 60 cd]]) [0, 1] 2 rfl (by decide +kernel) rfl) hP
            have hD : va_D A (fl [[ob h 7 [.ref cod, .int (nI ln), .int (nI (pos + 1)), .int (nI na), .int (nI np), .int (nI nr), .ref told]], [ia ty cod 60 cd]]) := D_perm (po (bs := [[ob h 7 [.ref cod, .int (nI ln), .int (nI (pos + 1)), .int (nI na), .int (nI np), .int (nI nr), .ref told]], [ia ty cod 60 cd]]) [0, 1] 2 rfl (by decide +kernel) rfl) hD
            rcases Classical.em (isDig cd ln (pos + 1)) with hd_4 | hd_4
            · have hd9 := (dig_nI hd_4).2
              refine W.eq (g2 := F0 m 14 ls [.int (nI (digN cd (pos + 1)))]) (by rw [if_pos hd_4]) ?_
              refine lv_istore (lv' := [(5, .int (nI (digN cd (pos + 1)))), (4, .int 1), (3, .int (nI (0 + digN cd pos * 10))), (0, .ref h), (1, .int 10), (2, .int (nI hi9))]) hx hb dX8_readNumber_14 hl (by decide) rfl (fun ls hl => ?_)
              refine lv_iload hx hb dX8_readNumber_16 (lv_at hl 0 rfl) ?_
              refine lv_ldc hx hb hown (hts (Cond.constant RX8 41 (-99999999)) (List.mem_of_getElem? (i := 1) rfl)) dX8_readNumber_18 ?_
              refine lv_icmp_eq (tgt := 34) hx hb dX8_readNumber_20 (by decide) (fun c_11 => ?_) (fun c_11 => ?_)
              · first | exact absurd c_11 (nI_nn (n := digN cd (pos + 1)) (by omega)) | exact absurd (nI_nn (n := digN cd (pos + 1)) (by omega)) c_11
              · skip
                refine lv_iload_n hx hb dX8_readNumber_23 rfl (lv_at hl 2 rfl) ?_
                refine lv_iload hx hb dX8_readNumber_24 (lv_at hl 0 rfl) ?_
                refine lv_iload hx hb dX8_readNumber_26 (lv_at hl 1 rfl) ?_
                refine k_imul (v := (nI (digN cd (pos + 1) * 1))) hx hb dX8_readNumber_28 (nI_mul (digN cd (pos + 1)) (1)) ?_
                refine k_iadd (v := (nI (0 + digN cd pos * 10 + (digN cd (pos + 1) * 1)))) hx hb dX8_readNumber_29 (nI_add (0 + digN cd pos * 10) (digN cd (pos + 1) * 1)) ?_
                refine lv_iload_n hx hb dX8_readNumber_30 rfl (lv_at hl 5 rfl) ?_
                refine lv_icmp_le (tgt := 37) hx hb dX8_readNumber_31 (by decide) (fun c_12 => ?_) (fun c_12 => ?_)
                · skip
                  refine lv_iload_n hx hb dX8_readNumber_37 rfl (lv_at hl 2 rfl) ?_
                  refine lv_iload hx hb dX8_readNumber_38 (lv_at hl 0 rfl) ?_
                  refine lv_iload hx hb dX8_readNumber_40 (lv_at hl 1 rfl) ?_
                  refine k_imul (v := (nI (digN cd (pos + 1) * 1))) hx hb dX8_readNumber_42 (nI_mul (digN cd (pos + 1)) (1)) ?_
                  refine k_iadd (v := (nI (0 + digN cd pos * 10 + (digN cd (pos + 1) * 1)))) hx hb dX8_readNumber_43 (nI_add (0 + digN cd pos * 10) (digN cd (pos + 1) * 1)) ?_
                  refine lv_istore_n (lv' := [(3, .int (nI (0 + digN cd pos * 10 + (digN cd (pos + 1) * 1)))), (5, .int (nI (digN cd (pos + 1)))), (4, .int 1), (0, .ref h), (1, .int 10), (2, .int (nI hi9))]) hx hb dX8_readNumber_44 rfl hl (by decide) rfl (fun ls hl => ?_)
                  refine lv_aload_n hx hb dX8_readNumber_45 rfl (lv_at hl 3 rfl) ?_
                  refine lv_dup hx hb dX8_readNumber_46 rfl ?_
                  refine va_get (D := D) (ci := 7) (v := .int (nI (pos + 1))) (C := RX8) (T := TX8) (N := 7) hx hb hts i_X8 hown hK hP 0 rfl rfl 2 (by decide) (hts (Cond.fieldLink RX8 35 "BrownClock$Text" "position" "I") (List.mem_of_getElem? (i := 2) rfl)) (fun _ h9 => h9) rfl dX8_readNumber_47 ?_
                  refine lv_iconst (v := 1) hx hb dX8_readNumber_50 (by decide) ?_
                  refine k_iadd (v := (nI (pos + 1 + 1))) hx hb dX8_readNumber_51 (nI_add (pos + 1) (1)) ?_
                  refine va_put (D := D) (ci := 7) (v := .int (nI (pos + 1 + 1))) (ty := .int) (C := RX8) (T := TX8) (N := 7) hx hb hts i_X8 tyX8 tyX8_ok nmX8 hown hK hP hD hS 0 rfl rfl 2 (by decide) (hts (Cond.fieldLink RX8 35 "BrownClock$Text" "position" "I") (List.mem_of_getElem? (i := 2) rfl)) (fun _ h9 => h9) rfl (by decide +kernel) rfl rfl (Nat.le_of_ble_eq_true rfl) dX8_readNumber_52 (fun H locs hP hD hS => ?_)
                  have hP : va_P D vwCl (fl [[ob h 7 [.ref cod, .int (nI ln), .int (nI (pos + 1 + 1)), .int (nI na), .int (nI np), .int (nI nr), .ref told]], [ia ty cod 60 cd]]) H := hP
                  have hD : va_D A (fl [[ob h 7 [.ref cod, .int (nI ln), .int (nI (pos + 1 + 1)), .int (nI na), .int (nI np), .int (nI nr), .ref told]], [ia ty cod 60 cd]]) := hD
                  refine lv_iload hx hb dX8_readNumber_55 (lv_at hl 2 rfl) ?_
                  refine lv_bipush (v := 10) hx hb dX8_readNumber_57 (by decide) ?_
                  refine k_idiv (v := 0) hx hb dX8_readNumber_59 (by decide) (by decide) ?_
                  refine lv_istore (lv' := [(4, .int 0), (3, .int (nI (0 + digN cd pos * 10 + (digN cd (pos + 1) * 1)))), (5, .int (nI (digN cd (pos + 1)))), (0, .ref h), (1, .int 10), (2, .int (nI hi9))]) hx hb dX8_readNumber_60 hl (by decide) rfl (fun ls hl => ?_)
                  refine lv_goto (tgt := 5) hx hb dX8_readNumber_62 (by decide) ?_
                  refine lv_iload hx hb dX8_readNumber_5 (lv_at hl 0 rfl) ?_
                  refine lv_if_le (tgt := 65) hx hb dX8_readNumber_7 (by decide) (fun c_13 => ?_) (fun c_13 => ?_)
                  · skip
                    refine lv_iload_n hx hb dX8_readNumber_65 rfl (lv_at hl 1 rfl) ?_
                    have hz7_0 := nle_of (a := 10) (b := 0) (by omega) (by omega) c_1
                    have hz31_2 := (nI_leI (a := 0 + digN cd pos * 10) (b := hi9) (by omega) (by omega)).mp c_6
                    have hz7_3 := nle_of (a := 1) (b := 0) (by omega) (by omega) c_7
                    have hz31_5 := (nI_leI (a := 0 + digN cd pos * 10 + (digN cd (pos + 1) * 1)) (b := hi9) (by omega) (by omega)).mp c_12
                    have hz7_6 := (nI_leI (a := 0) (b := 0) (by omega) (by omega)).mp c_13
                    have hv1 : numV cd ln [10, 1] hi9 0 pos = _ := (numV_y ⟨hd_1, by omega⟩).1.trans ((numV_y ⟨hd_4, by omega⟩).1)
                    have hv2 : numP cd ln [10, 1] hi9 0 pos = _ := (numV_y ⟨hd_1, by omega⟩).2.trans ((numV_y ⟨hd_4, by omega⟩).2)
                    have hP : va_P D vwCl (fl [[ob h 7 [.ref cod, .int (nI ln), .int (nI (numP cd ln [10, 1] hi9 0 pos)), .int (nI na), .int (nI np), .int (nI nr), .ref told]], [ia ty cod 60 cd]]) H := by rw [hv2]; exact hP
                    have hD : va_D A (fl [[ob h 7 [.ref cod, .int (nI ln), .int (nI (numP cd ln [10, 1] hi9 0 pos)), .int (nI na), .int (nI np), .int (nI nr), .ref told]], [ia ty cod 60 cd]]) := (D_same2 hD [h, cod] rfl rfl)
                    exact end_i (bs' := (fun (_ : Unit) => [[ob h 7 [.ref cod, .int (nI ln), .int (nI (numP cd ln [10, 1] hi9 0 pos)), .int (nI na), .int (nI np), .int (nI nr), .ref told]], [ia ty cod 60 cd]])) () hx hb hr hlocks hP hD hS (by rw [hv1]; rfl) (Nat.le_of_ble_eq_true rfl) (Nat.le_of_ble_eq_true rfl) dX8_readNumber_66
                  · exact absurd (by decide) c_13
                · skip
                  refine lv_ldc hx hb hown (hts (Cond.constant RX8 41 (-99999999)) (List.mem_of_getElem? (i := 1) rfl)) dX8_readNumber_34 ?_
                  have hz7_0 := nle_of (a := 10) (b := 0) (by omega) (by omega) c_1
                  have hz31_2 := (nI_leI (a := 0 + digN cd pos * 10) (b := hi9) (by omega) (by omega)).mp c_6
                  have hz7_3 := nle_of (a := 1) (b := 0) (by omega) (by omega) c_7
                  have hz31_5 := nle_of (a := 0 + digN cd pos * 10 + (digN cd (pos + 1) * 1)) (b := hi9) (by omega) (by omega) c_12
                  have hv1 : numV cd ln [10, 1] hi9 0 pos = _ := (numV_y ⟨hd_1, by omega⟩).1.trans ((numV_n (fun q => by first | exact hd_4 q.1 | omega)).1)
                  have hv2 : numP cd ln [10, 1] hi9 0 pos = _ := (numV_y ⟨hd_1, by omega⟩).2.trans ((numV_n (fun q => by first | exact hd_4 q.1 | omega)).2)
                  have hP : va_P D vwCl (fl [[ob h 7 [.ref cod, .int (nI ln), .int (nI (numP cd ln [10, 1] hi9 0 pos)), .int (nI na), .int (nI np), .int (nI nr), .ref told]], [ia ty cod 60 cd]]) H := by rw [hv2]; exact hP
                  have hD : va_D A (fl [[ob h 7 [.ref cod, .int (nI ln), .int (nI (numP cd ln [10, 1] hi9 0 pos)), .int (nI na), .int (nI np), .int (nI nr), .ref told]], [ia ty cod 60 cd]]) := (D_same2 hD [h, cod] rfl rfl)
                  exact end_i (bs' := (fun (_ : Unit) => [[ob h 7 [.ref cod, .int (nI ln), .int (nI (numP cd ln [10, 1] hi9 0 pos)), .int (nI na), .int (nI np), .int (nI nr), .ref told]], [ia ty cod 60 cd]])) () hx hb hr hlocks hP hD hS (by rw [hv1]; rfl) (Nat.le_of_ble_eq_true rfl) (Nat.le_of_ble_eq_true rfl) dX8_readNumber_36
            · have hd9 := hd_4
              refine W.eq (g2 := F0 m 14 ls [.int (-99999999)]) (by rw [if_neg hd_4]) ?_
              refine lv_istore (lv' := [(5, .int (-99999999)), (4, .int 1), (3, .int (nI (0 + digN cd pos * 10))), (0, .ref h), (1, .int 10), (2, .int (nI hi9))]) hx hb dX8_readNumber_14 hl (by decide) rfl (fun ls hl => ?_)
              refine lv_iload hx hb dX8_readNumber_16 (lv_at hl 0 rfl) ?_
              refine lv_ldc hx hb hown (hts (Cond.constant RX8 41 (-99999999)) (List.mem_of_getElem? (i := 1) rfl)) dX8_readNumber_18 ?_
              refine lv_icmp_eq (tgt := 34) hx hb dX8_readNumber_20 (by decide) (fun c_14 => ?_) (fun c_14 => ?_)
              · skip
                refine lv_ldc hx hb hown (hts (Cond.constant RX8 41 (-99999999)) (List.mem_of_getElem? (i := 1) rfl)) dX8_readNumber_34 ?_
                have hz7_0 := nle_of (a := 10) (b := 0) (by omega) (by omega) c_1
                have hz31_2 := (nI_leI (a := 0 + digN cd pos * 10) (b := hi9) (by omega) (by omega)).mp c_6
                have hz7_3 := nle_of (a := 1) (b := 0) (by omega) (by omega) c_7
                have hv1 : numV cd ln [10, 1] hi9 0 pos = _ := (numV_y ⟨hd_1, by omega⟩).1.trans ((numV_n (fun q => by first | exact hd_4 q.1 | omega)).1)
                have hv2 : numP cd ln [10, 1] hi9 0 pos = _ := (numV_y ⟨hd_1, by omega⟩).2.trans ((numV_n (fun q => by first | exact hd_4 q.1 | omega)).2)
                have hP : va_P D vwCl (fl [[ob h 7 [.ref cod, .int (nI ln), .int (nI (numP cd ln [10, 1] hi9 0 pos)), .int (nI na), .int (nI np), .int (nI nr), .ref told]], [ia ty cod 60 cd]]) H := by rw [hv2]; exact hP
                have hD : va_D A (fl [[ob h 7 [.ref cod, .int (nI ln), .int (nI (numP cd ln [10, 1] hi9 0 pos)), .int (nI na), .int (nI np), .int (nI nr), .ref told]], [ia ty cod 60 cd]]) := (D_same2 hD [h, cod] rfl rfl)
                exact end_i (bs' := (fun (_ : Unit) => [[ob h 7 [.ref cod, .int (nI ln), .int (nI (numP cd ln [10, 1] hi9 0 pos)), .int (nI na), .int (nI np), .int (nI nr), .ref told]], [ia ty cod 60 cd]])) () hx hb hr hlocks hP hD hS (by rw [hv1]; rfl) (Nat.le_of_ble_eq_true rfl) (Nat.le_of_ble_eq_true rfl) dX8_readNumber_36
              · exact absurd (by decide) c_14
        · skip
          refine lv_ldc hx hb hown (hts (Cond.constant RX8 41 (-99999999)) (List.mem_of_getElem? (i := 1) rfl)) dX8_readNumber_34 ?_
          have hz7_0 := nle_of (a := 10) (b := 0) (by omega) (by omega) c_1
          have hz31_2 := nle_of (a := 0 + digN cd pos * 10) (b := hi9) (by omega) (by omega) c_6
          have hv1 : numV cd ln [10, 1] hi9 0 pos = _ := (numV_n (fun q => by first | exact hd_1 q.1 | omega)).1
          have hv2 : numP cd ln [10, 1] hi9 0 pos = _ := (numV_n (fun q => by first | exact hd_1 q.1 | omega)).2
          have hP : va_P D vwCl (fl [[ob h 7 [.ref cod, .int (nI ln), .int (nI (numP cd ln [10, 1] hi9 0 pos)), .int (nI na), .int (nI np), .int (nI nr), .ref told]], [ia ty cod 60 cd]]) H := by rw [hv2]; exact hP
          have hD : va_D A (fl [[ob h 7 [.ref cod, .int (nI ln), .int (nI (numP cd ln [10, 1] hi9 0 pos)), .int (nI na), .int (nI np), .int (nI nr), .ref told]], [ia ty cod 60 cd]]) := (D_same2 hD [h, cod] rfl rfl)
          exact end_i (bs' := (fun (_ : Unit) => [[ob h 7 [.ref cod, .int (nI ln), .int (nI (numP cd ln [10, 1] hi9 0 pos)), .int (nI na), .int (nI np), .int (nI nr), .ref told]], [ia ty cod 60 cd]])) () hx hb hr hlocks hP hD hS (by rw [hv1]; rfl) (Nat.le_of_ble_eq_true rfl) (Nat.le_of_ble_eq_true rfl) dX8_readNumber_36
    · have hd9 := hd_1
      refine W.eq (g2 := F0 m 14 ls [.int (-99999999)]) (by rw [if_neg hd_1]) ?_
      refine lv_istore (lv' := [(5, .int (-99999999)), (4, .int 10), (3, .int 0), (0, .ref h), (1, .int 10), (2, .int (nI hi9))]) hx hb dX8_readNumber_14 hl (by decide) rfl (fun ls hl => ?_)
      refine lv_iload hx hb dX8_readNumber_16 (lv_at hl 0 rfl) ?_
      refine lv_ldc hx hb hown (hts (Cond.constant RX8 41 (-99999999)) (List.mem_of_getElem? (i := 1) rfl)) dX8_readNumber_18 ?_
      refine lv_icmp_eq (tgt := 34) hx hb dX8_readNumber_20 (by decide) (fun c_15 => ?_) (fun c_15 => ?_)
      · skip
        refine lv_ldc hx hb hown (hts (Cond.constant RX8 41 (-99999999)) (List.mem_of_getElem? (i := 1) rfl)) dX8_readNumber_34 ?_
        have hz7_0 := nle_of (a := 10) (b := 0) (by omega) (by omega) c_1
        have hv1 : numV cd ln [10, 1] hi9 0 pos = _ := (numV_n (fun q => by first | exact hd_1 q.1 | omega)).1
        have hv2 : numP cd ln [10, 1] hi9 0 pos = _ := (numV_n (fun q => by first | exact hd_1 q.1 | omega)).2
        have hP : va_P D vwCl (fl [[ob h 7 [.ref cod, .int (nI ln), .int (nI (numP cd ln [10, 1] hi9 0 pos)), .int (nI na), .int (nI np), .int (nI nr), .ref told]], [ia ty cod 60 cd]]) H := by rw [hv2]; exact hP
        have hD : va_D A (fl [[ob h 7 [.ref cod, .int (nI ln), .int (nI (numP cd ln [10, 1] hi9 0 pos)), .int (nI na), .int (nI np), .int (nI nr), .ref told]], [ia ty cod 60 cd]]) := (D_same2 hD [h, cod] rfl rfl)
        exact end_i (bs' := (fun (_ : Unit) => [[ob h 7 [.ref cod, .int (nI ln), .int (nI (numP cd ln [10, 1] hi9 0 pos)), .int (nI na), .int (nI np), .int (nI nr), .ref told]], [ia ty cod 60 cd]])) () hx hb hr hlocks hP hD hS (by rw [hv1]; rfl) (Nat.le_of_ble_eq_true rfl) (Nat.le_of_ble_eq_true rfl) dX8_readNumber_36
      · exact absurd (by decide) c_15
set_option maxHeartbeats 4000000 in
set_option maxRecDepth 100000 in
theorem c_X8_readNumber3 (l : Launch) (D : va_G) (ty : Nat → ClassId) (h cod told : Nat) (cd : Nat → Int32) (ln pos na np nr : Nat) (hi9 : Nat) (hl6 : ln ≤ 60) (hp6 : pos < 1000) (hh9 : hi9 < 100000) : CTi l yX8_readNumber wsX8_readNumber ({ frames := 2, cells := 0, slots := 0, locals := 41 }) D ty [.ref h, .int 100, .int (nI hi9)] [[ob h 7 [.ref cod, .int (nI ln), .int (nI pos), .int (nI na), .int (nI np), .int (nI nr), .ref told]], [ia ty cod 60 cd]] (fun (RET : Int32) (_ : Unit) => RET = (onV (numV cd ln [100, 10, 1] hi9 0 pos))) (fun (_ : Unit) => [[ob h 7 [.ref cod, .int (nI ln), .int (nI (numP cd ln [100, 10, 1] hi9 0 pos)), .int (nI na), .int (nI np), .int (nI nr), .ref told]], [ia ty cod 60 cd]]) := by
  refine CTi_of cX8_readNumber 6 (some .int) (by decide) rfl (Nat.le_of_ble_eq_true rfl) ?_
  intro p e s m args below meth c A hx hb hr hml hown hlocks hin hts hA hX hK hP hD ls hl
  have hown : s.vm.findClass RX8 = some m.cls := hown
  have hS : va_S A s.heap s.heap [] := va_S.rf
  have i_X8 : ∀ z ∈ wsX80, z ∈ wsX8_readNumber := fun z h => List.mem_cons_of_mem _ (List.mem_append_right _ h)
  have hl : lv_has ls 6 [(0, .ref h), (1, .int 100), (2, .int (nI hi9))] := hl
  refine lv_iconst (v := 0) hx hb dX8_readNumber_0 (by decide) ?_
  refine lv_istore_n (lv' := [(3, .int 0), (0, .ref h), (1, .int 100), (2, .int (nI hi9))]) hx hb dX8_readNumber_1 rfl hl (by decide) rfl (fun ls hl => ?_)
  refine lv_iload_n hx hb dX8_readNumber_2 rfl (lv_at hl 2 rfl) ?_
  refine lv_istore (lv' := [(4, .int 100), (3, .int 0), (0, .ref h), (1, .int 100), (2, .int (nI hi9))]) hx hb dX8_readNumber_3 hl (by decide) rfl (fun ls hl => ?_)
  refine lv_iload hx hb dX8_readNumber_5 (lv_at hl 0 rfl) ?_
  refine lv_if_le (tgt := 65) hx hb dX8_readNumber_7 (by decide) (fun c_1 => ?_) (fun c_1 => ?_)
  · exact absurd c_1 (by decide)
  · skip
    refine lv_aload_n hx hb dX8_readNumber_10 rfl (lv_at hl 2 rfl) ?_
    refine cVi (As := []) (rest := []) ⟨hx, hb, hml, hown, hts⟩ (c_X8_digitHere l D ty h cod told cd ln pos na np nr (hl6) (by omega)) (cwV 0 hts gX8_readNumber_X8_digitHere rfl rfl rfl (by decide +kernel) ⟨Nat.le_of_ble_eq_true rfl, Nat.le_of_ble_eq_true rfl⟩) hK hX hP hD hS hA (pk (bs := [[ob h 7 [.ref cod, .int (nI ln), .int (nI pos), .int (nI na), .int (nI np), .int (nI nr), .ref told]], [ia ty cod 60 cd]]) (bsc := [[ob h 7 [.ref cod, .int (nI ln), .int (nI pos), .int (nI na), .int (nI np), .int (nI nr), .ref told]], [ia ty cod 60 cd]]) (bsr := []) [0, 1] [] 2 rfl (by decide +kernel) rfl rfl) (ci := 7) rfl 0 rfl rfl hl.1 rfl (Nat.le_of_ble_eq_true rfl) dX8_readNumber_11 ⟨Nat.le_of_ble_eq_true rfl, Nat.le_of_ble_eq_true rfl⟩ (fun r_3 u_2 h_4 H locs hP hD hS => ?_)
    have h_4 : r_3 = (if isDig cd ln pos then nI (digN cd pos) else -99999999) := h_4
    subst h_4
    have hP : va_P D vwCl (fl [[ob h 7 [.ref cod, .int (nI ln), .int (nI pos), .int (nI na), .int (nI np), .int (nI nr), .ref told]], [ia ty cod 60 cd]]) H := P_perm (po (bs := [[ob h 7 [.ref cod, .int (nI ln), .int (nI pos), .int (nI na), .int (nI np), .int (nI nr), .ref told]], [ia ty cod 60 cd]]) [0, 1] 2 rfl (by decide +kernel) rfl) hP
    have hD : va_D A (fl [[ob h 7 [.ref cod, .int (nI ln), .int (nI pos), .int (nI na), .int (nI np), .int (nI nr), .ref told]], [ia ty cod 60 cd]]) := D_perm (po (bs := [[ob h 7 [.ref cod, .int (nI ln), .int (nI pos), .int (nI na), .int (nI np), .int (nI nr), .ref told]], [ia ty cod 60 cd]]) [0, 1] 2 rfl (by decide +kernel) rfl) hD
    rcases Classical.em (isDig cd ln pos) with hd_1 | hd_1
    · have hd9 := (dig_nI hd_1).2
      refine W.eq (g2 := F0 m 14 ls [.int (nI (digN cd pos))]) (by rw [if_pos hd_1]) ?_
      refine lv_istore (lv' := [(5, .int (nI (digN cd pos))), (4, .int 100), (3, .int 0), (0, .ref h), (1, .int 100), (2, .int (nI hi9))]) hx hb dX8_readNumber_14 hl (by decide) rfl (fun ls hl => ?_)
      refine lv_iload hx hb dX8_readNumber_16 (lv_at hl 0 rfl) ?_
      refine lv_ldc hx hb hown (hts (Cond.constant RX8 41 (-99999999)) (List.mem_of_getElem? (i := 1) rfl)) dX8_readNumber_18 ?_
      refine lv_icmp_eq (tgt := 34) hx hb dX8_readNumber_20 (by decide) (fun c_5 => ?_) (fun c_5 => ?_)
      · first | exact absurd c_5 (nI_nn (n := digN cd pos) (by omega)) | exact absurd (nI_nn (n := digN cd pos) (by omega)) c_5
      · skip
        refine lv_iload_n hx hb dX8_readNumber_23 rfl (lv_at hl 2 rfl) ?_
        refine lv_iload hx hb dX8_readNumber_24 (lv_at hl 0 rfl) ?_
        refine lv_iload hx hb dX8_readNumber_26 (lv_at hl 1 rfl) ?_
        refine k_imul (v := (nI (digN cd pos * 100))) hx hb dX8_readNumber_28 (nI_mul (digN cd pos) (100)) ?_
        refine k_iadd (v := (nI (0 + digN cd pos * 100))) hx hb dX8_readNumber_29 (nI_add (0) (digN cd pos * 100)) ?_
        refine lv_iload_n hx hb dX8_readNumber_30 rfl (lv_at hl 5 rfl) ?_
        refine lv_icmp_le (tgt := 37) hx hb dX8_readNumber_31 (by decide) (fun c_6 => ?_) (fun c_6 => ?_)
        · skip
          refine lv_iload_n hx hb dX8_readNumber_37 rfl (lv_at hl 2 rfl) ?_
          refine lv_iload hx hb dX8_readNumber_38 (lv_at hl 0 rfl) ?_
          refine lv_iload hx hb dX8_readNumber_40 (lv_at hl 1 rfl) ?_
          refine k_imul (v := (nI (digN cd pos * 100))) hx hb dX8_readNumber_42 (nI_mul (digN cd pos) (100)) ?_
          refine k_iadd (v := (nI (0 + digN cd pos * 100))) hx hb dX8_readNumber_43 (nI_add (0) (digN cd pos * 100)) ?_
          refine lv_istore_n (lv' := [(3, .int (nI (0 + digN cd pos * 100))), (5, .int (nI (digN cd pos))), (4, .int 100), (0, .ref h), (1, .int 100), (2, .int (nI hi9))]) hx hb dX8_readNumber_44 rfl hl (by decide) rfl (fun ls hl => ?_)
          refine lv_aload_n hx hb dX8_readNumber_45 rfl (lv_at hl 3 rfl) ?_
          refine lv_dup hx hb dX8_readNumber_46 rfl ?_
          refine va_get (D := D) (ci := 7) (v := .int (nI pos)) (C := RX8) (T := TX8) (N := 7) hx hb hts i_X8 hown hK hP 0 rfl rfl 2 (by decide) (hts (Cond.fieldLink RX8 35 "BrownClock$Text" "position" "I") (List.mem_of_getElem? (i := 2) rfl)) (fun _ h9 => h9) rfl dX8_readNumber_47 ?_
          refine lv_iconst (v := 1) hx hb dX8_readNumber_50 (by decide) ?_
          refine k_iadd (v := (nI (pos + 1))) hx hb dX8_readNumber_51 (nI_add (pos) (1)) ?_
          refine va_put (D := D) (ci := 7) (v := .int (nI (pos + 1))) (ty := .int) (C := RX8) (T := TX8) (N := 7) hx hb hts i_X8 tyX8 tyX8_ok nmX8 hown hK hP hD hS 0 rfl rfl 2 (by decide) (hts (Cond.fieldLink RX8 35 "BrownClock$Text" "position" "I") (List.mem_of_getElem? (i := 2) rfl)) (fun _ h9 => h9) rfl (by decide +kernel) rfl rfl (Nat.le_of_ble_eq_true rfl) dX8_readNumber_52 (fun H locs hP hD hS => ?_)
          have hP : va_P D vwCl (fl [[ob h 7 [.ref cod, .int (nI ln), .int (nI (pos + 1)), .int (nI na), .int (nI np), .int (nI nr), .ref told]], [ia ty cod 60 cd]]) H := hP
          have hD : va_D A (fl [[ob h 7 [.ref cod, .int (nI ln), .int (nI (pos + 1)), .int (nI na), .int (nI np), .int (nI nr), .ref told]], [ia ty cod 60 cd]]) := hD
          refine lv_iload hx hb dX8_readNumber_55 (lv_at hl 2 rfl) ?_
          refine lv_bipush (v := 10) hx hb dX8_readNumber_57 (by decide) ?_
          refine k_idiv (v := 10) hx hb dX8_readNumber_59 (by decide) (by decide) ?_
          refine lv_istore (lv' := [(4, .int 10), (3, .int (nI (0 + digN cd pos * 100))), (5, .int (nI (digN cd pos))), (0, .ref h), (1, .int 100), (2, .int (nI hi9))]) hx hb dX8_readNumber_60 hl (by decide) rfl (fun ls hl => ?_)
          refine lv_goto (tgt := 5) hx hb dX8_readNumber_62 (by decide) ?_
          refine lv_iload hx hb dX8_readNumber_5 (lv_at hl 0 rfl) ?_
          refine lv_if_le (tgt := 65) hx hb dX8_readNumber_7 (by decide) (fun c_7 => ?_) (fun c_7 => ?_)
          · exact absurd c_7 (by decide)
          · skip
            refine lv_aload_n hx hb dX8_readNumber_10 rfl (lv_at hl 3 rfl) ?_
            refine cVi (As := []) (rest := []) ⟨hx, hb, hml, hown, hts⟩ (c_X8_digitHere l D ty h cod told cd ln (pos + 1) na np nr (hl6) (by omega)) (cwV 0 hts gX8_readNumber_X8_digitHere rfl rfl rfl (by decide +kernel) ⟨Nat.le_of_ble_eq_true rfl, Nat.le_of_ble_eq_true rfl⟩) hK hX hP hD hS hA (pk (bs := [[ob h 7 [.ref cod, .int (nI ln), .int (nI (pos + 1)), .int (nI na), .int (nI np), .int (nI nr), .ref told]], [ia ty cod 60 cd]]) (bsc := [[ob h 7 [.ref cod, .int (nI ln), .int (nI (pos + 1)), .int (nI na), .int (nI np), .int (nI nr), .ref told]], [ia ty cod 60 cd]]) (bsr := []) [0, 1] [] 2 rfl (by decide +kernel) rfl rfl) (ci := 7) rfl 0 rfl rfl hl.1 rfl (Nat.le_of_ble_eq_true rfl) dX8_readNumber_11 ⟨Nat.le_of_ble_eq_true rfl, Nat.le_of_ble_eq_true rfl⟩ (fun r_9 u_8 h_10 H locs hP hD hS => ?_)
            have h_10 : r_9 = (if isDig cd ln (pos + 1) then nI (digN cd (pos + 1)) else -99999999) := h_10
            subst h_10
            have hP : va_P D vwCl (fl [[ob h 7 [.ref cod, .int (nI ln), .int (nI (pos + 1)), .int (nI na), .int (nI np), .int (nI nr), .ref told]], [ia ty cod 60 cd]]) H := P_perm (po (bs := [[ob h 7 [.ref cod, .int (nI ln), .int (nI (pos + 1)), .int (nI na), .int (nI np), .int (nI nr), .ref told]], [ia ty cod 60 cd]]) [0, 1] 2 rfl (by decide +kernel) rfl) hP
            have hD : va_D A (fl [[ob h 7 [.ref cod, .int (nI ln), .int (nI (pos + 1)), .int (nI na), .int (nI np), .int (nI nr), .ref told]], [ia ty cod 60 cd]]) := D_perm (po (bs := [[ob h 7 [.ref cod, .int (nI ln), .int (nI (pos + 1)), .int (nI na), .int (nI np), .int (nI nr), .ref told]], [ia ty cod 60 cd]]) [0, 1] 2 rfl (by decide +kernel) rfl) hD
            rcases Classical.em (isDig cd ln (pos + 1)) with hd_4 | hd_4
            · have hd9 := (dig_nI hd_4).2
              refine W.eq (g2 := F0 m 14 ls [.int (nI (digN cd (pos + 1)))]) (by rw [if_pos hd_4]) ?_
              refine lv_istore (lv' := [(5, .int (nI (digN cd (pos + 1)))), (4, .int 10), (3, .int (nI (0 + digN cd pos * 100))), (0, .ref h), (1, .int 100), (2, .int (nI hi9))]) hx hb dX8_readNumber_14 hl (by decide) rfl (fun ls hl => ?_)
              refine lv_iload hx hb dX8_readNumber_16 (lv_at hl 0 rfl) ?_
              refine lv_ldc hx hb hown (hts (Cond.constant RX8 41 (-99999999)) (List.mem_of_getElem? (i := 1) rfl)) dX8_readNumber_18 ?_
              refine lv_icmp_eq (tgt := 34) hx hb dX8_readNumber_20 (by decide) (fun c_11 => ?_) (fun c_11 => ?_)
              · first | exact absurd c_11 (nI_nn (n := digN cd (pos + 1)) (by omega)) | exact absurd (nI_nn (n := digN cd (pos + 1)) (by omega)) c_11
              · skip
                refine lv_iload_n hx hb dX8_readNumber_23 rfl (lv_at hl 2 rfl) ?_
                refine lv_iload hx hb dX8_readNumber_24 (lv_at hl 0 rfl) ?_
                refine lv_iload hx hb dX8_readNumber_26 (lv_at hl 1 rfl) ?_
                refine k_imul (v := (nI (digN cd (pos + 1) * 10))) hx hb dX8_readNumber_28 (nI_mul (digN cd (pos + 1)) (10)) ?_
                refine k_iadd (v := (nI (0 + digN cd pos * 100 + (digN cd (pos + 1) * 10)))) hx hb dX8_readNumber_29 (nI_add (0 + digN cd pos * 100) (digN cd (pos + 1) * 10)) ?_
                refine lv_iload_n hx hb dX8_readNumber_30 rfl (lv_at hl 5 rfl) ?_
                refine lv_icmp_le (tgt := 37) hx hb dX8_readNumber_31 (by decide) (fun c_12 => ?_) (fun c_12 => ?_)
                · skip
                  refine lv_iload_n hx hb dX8_readNumber_37 rfl (lv_at hl 2 rfl) ?_
                  refine lv_iload hx hb dX8_readNumber_38 (lv_at hl 0 rfl) ?_
                  refine lv_iload hx hb dX8_readNumber_40 (lv_at hl 1 rfl) ?_
                  refine k_imul (v := (nI (digN cd (pos + 1) * 10))) hx hb dX8_readNumber_42 (nI_mul (digN cd (pos + 1)) (10)) ?_
                  refine k_iadd (v := (nI (0 + digN cd pos * 100 + (digN cd (pos + 1) * 10)))) hx hb dX8_readNumber_43 (nI_add (0 + digN cd pos * 100) (digN cd (pos + 1) * 10)) ?_
                  refine lv_istore_n (lv' := [(3, .int (nI (0 + digN cd pos * 100 + (digN cd (pos + 1) * 10)))), (5, .int (nI (digN cd (pos + 1)))), (4, .int 10), (0, .ref h), (1, .int 100), (2, .int (nI hi9))]) hx hb dX8_readNumber_44 rfl hl (by decide) rfl (fun ls hl => ?_)
                  refine lv_aload_n hx hb dX8_readNumber_45 rfl (lv_at hl 3 rfl) ?_
                  refine lv_dup hx hb dX8_readNumber_46 rfl ?_
                  refine va_get (D := D) (ci := 7) (v := .int (nI (pos + 1))) (C := RX8) (T := TX8) (N := 7) hx hb hts i_X8 hown hK hP 0 rfl rfl 2 (by decide) (hts (Cond.fieldLink RX8 35 "BrownClock$Text" "position" "I") (List.mem_of_getElem? (i := 2) rfl)) (fun _ h9 => h9) rfl dX8_readNumber_47 ?_
                  refine lv_iconst (v := 1) hx hb dX8_readNumber_50 (by decide) ?_
                  refine k_iadd (v := (nI (pos + 1 + 1))) hx hb dX8_readNumber_51 (nI_add (pos + 1) (1)) ?_
                  refine va_put (D := D) (ci := 7) (v := .int (nI (pos + 1 + 1))) (ty := .int) (C := RX8) (T := TX8) (N := 7) hx hb hts i_X8 tyX8 tyX8_ok nmX8 hown hK hP hD hS 0 rfl rfl 2 (by decide) (hts (Cond.fieldLink RX8 35 "BrownClock$Text" "position" "I") (List.mem_of_getElem? (i := 2) rfl)) (fun _ h9 => h9) rfl (by decide +kernel) rfl rfl (Nat.le_of_ble_eq_true rfl) dX8_readNumber_52 (fun H locs hP hD hS => ?_)
                  have hP : va_P D vwCl (fl [[ob h 7 [.ref cod, .int (nI ln), .int (nI (pos + 1 + 1)), .int (nI na), .int (nI np), .int (nI nr), .ref told]], [ia ty cod 60 cd]]) H := hP
                  have hD : va_D A (fl [[ob h 7 [.ref cod, .int (nI ln), .int (nI (pos + 1 + 1)), .int (nI na), .int (nI np), .int (nI nr), .ref told]], [ia ty cod 60 cd]]) := hD
                  refine lv_iload hx hb dX8_readNumber_55 (lv_at hl 2 rfl) ?_
                  refine lv_bipush (v := 10) hx hb dX8_readNumber_57 (by decide) ?_
                  refine k_idiv (v := 1) hx hb dX8_readNumber_59 (by decide) (by decide) ?_
                  refine lv_istore (lv' := [(4, .int 1), (3, .int (nI (0 + digN cd pos * 100 + (digN cd (pos + 1) * 10)))), (5, .int (nI (digN cd (pos + 1)))), (0, .ref h), (1, .int 100), (2, .int (nI hi9))]) hx hb dX8_readNumber_60 hl (by decide) rfl (fun ls hl => ?_)
                  refine lv_goto (tgt := 5) hx hb dX8_readNumber_62 (by decide) ?_
                  refine lv_iload hx hb dX8_readNumber_5 (lv_at hl 0 rfl) ?_
                  refine lv_if_le (tgt := 65) hx hb dX8_readNumber_7 (by decide) (fun c_13 => ?_) (fun c_13 => ?_)
                  · exact absurd c_13 (by decide)
                  · skip
                    refine lv_aload_n hx hb dX8_readNumber_10 rfl (lv_at hl 3 rfl) ?_
                    refine cVi (As := []) (rest := []) ⟨hx, hb, hml, hown, hts⟩ (c_X8_digitHere l D ty h cod told cd ln (pos + 1 + 1) na np nr (hl6) (by omega)) (cwV 0 hts gX8_readNumber_X8_digitHere rfl rfl rfl (by decide +kernel) ⟨Nat.le_of_ble_eq_true rfl, Nat.le_of_ble_eq_true rfl⟩) hK hX hP hD hS hA (pk (bs := [[ob h 7 [.ref cod, .int (nI ln), .int (nI (pos + 1 + 1)), .int (nI na), .int (nI np), .int (nI nr), .ref told]], [ia ty cod 60 cd]]) (bsc := [[ob h 7 [.ref cod, .int (nI ln), .int (nI (pos + 1 + 1)), .int (nI na), .int (nI np), .int (nI nr), .ref told]], [ia ty cod 60 cd]]) (bsr := []) [0, 1] [] 2 rfl (by decide +kernel) rfl rfl) (ci := 7) rfl 0 rfl rfl hl.1 rfl (Nat.le_of_ble_eq_true rfl) dX8_readNumber_11 ⟨Nat.le_of_ble_eq_true rfl, Nat.le_of_ble_eq_true rfl⟩ (fun r_15 u_14 h_16 H locs hP hD hS => ?_)
                    have h_16 : r_15 = (if isDig cd ln (pos + 1 + 1) then nI (digN cd (pos + 1 + 1)) else -99999999) := h_16
                    subst h_16
                    have hP : va_P D vwCl (fl [[ob h 7 [.ref cod, .int (nI ln), .int (nI (pos + 1 + 1)), .int (nI na), .int (nI np), .int (nI nr), .ref told]], [ia ty cod 60 cd]]) H := P_perm (po (bs := [[ob h 7 [.ref cod, .int (nI ln), .int (nI (pos + 1 + 1)), .int (nI na), .int (nI np), .int (nI nr), .ref told]], [ia ty cod 60 cd]]) [0, 1] 2 rfl (by decide +kernel) rfl) hP
                    have hD : va_D A (fl [[ob h 7 [.ref cod, .int (nI ln), .int (nI (pos + 1 + 1)), .int (nI na), .int (nI np), .int (nI nr), .ref told]], [ia ty cod 60 cd]]) := D_perm (po (bs := [[ob h 7 [.ref cod, .int (nI ln), .int (nI (pos + 1 + 1)), .int (nI na), .int (nI np), .int (nI nr), .ref told]], [ia ty cod 60 cd]]) [0, 1] 2 rfl (by decide +kernel) rfl) hD
                    rcases Classical.em (isDig cd ln (pos + 1 + 1)) with hd_7 | hd_7
                    · have hd9 := (dig_nI hd_7).2
                      refine W.eq (g2 := F0 m 14 ls [.int (nI (digN cd (pos + 1 + 1)))]) (by rw [if_pos hd_7]) ?_
                      refine lv_istore (lv' := [(5, .int (nI (digN cd (pos + 1 + 1)))), (4, .int 1), (3, .int (nI (0 + digN cd pos * 100 + (digN cd (pos + 1) * 10)))), (0, .ref h), (1, .int 100), (2, .int (nI hi9))]) hx hb dX8_readNumber_14 hl (by decide) rfl (fun ls hl => ?_)
                      refine lv_iload hx hb dX8_readNumber_16 (lv_at hl 0 rfl) ?_
                      refine lv_ldc hx hb hown (hts (Cond.constant RX8 41 (-99999999)) (List.mem_of_getElem? (i := 1) rfl)) dX8_readNumber_18 ?_
                      refine lv_icmp_eq (tgt := 34) hx hb dX8_readNumber_20 (by decide) (fun c_17 => ?_) (fun c_17 => ?_)
                      · first | exact absurd c_17 (nI_nn (n := digN cd (pos + 1 + 1)) (by omega)) | exact absurd (nI_nn (n := digN cd (pos + 1 + 1)) (by omega)) c_17
                      · skip
                        refine lv_iload_n hx hb dX8_readNumber_23 rfl (lv_at hl 2 rfl) ?_
                        refine lv_iload hx hb dX8_readNumber_24 (lv_at hl 0 rfl) ?_
                        refine lv_iload hx hb dX8_readNumber_26 (lv_at hl 1 rfl) ?_
                        refine k_imul (v := (nI (digN cd (pos + 1 + 1) * 1))) hx hb dX8_readNumber_28 (nI_mul (digN cd (pos + 1 + 1)) (1)) ?_
                        refine k_iadd (v := (nI (0 + digN cd pos * 100 + (digN cd (pos + 1) * 10) + (digN cd (pos + 1 + 1) * 1)))) hx hb dX8_readNumber_29 (nI_add (0 + digN cd pos * 100 + (digN cd (pos + 1) * 10)) (digN cd (pos + 1 + 1) * 1)) ?_
                        refine lv_iload_n hx hb dX8_readNumber_30 rfl (lv_at hl 5 rfl) ?_
                        refine lv_icmp_le (tgt := 37) hx hb dX8_readNumber_31 (by decide) (fun c_18 => ?_) (fun c_18 => ?_)
                        · skip
                          refine lv_iload_n hx hb dX8_readNumber_37 rfl (lv_at hl 2 rfl) ?_
                          refine lv_iload hx hb dX8_readNumber_38 (lv_at hl 0 rfl) ?_
                          refine lv_iload hx hb dX8_readNumber_40 (lv_at hl 1 rfl) ?_
                          refine k_imul (v := (nI (digN cd (pos + 1 + 1) * 1))) hx hb dX8_readNumber_42 (nI_mul (digN cd (pos + 1 + 1)) (1)) ?_
                          refine k_iadd (v := (nI (0 + digN cd pos * 100 + (digN cd (pos + 1) * 10) + (digN cd (pos + 1 + 1) * 1)))) hx hb dX8_readNumber_43 (nI_add (0 + digN cd pos * 100 + (digN cd (pos + 1) * 10)) (digN cd (pos + 1 + 1) * 1)) ?_
                          refine lv_istore_n (lv' := [(3, .int (nI (0 + digN cd pos * 100 + (digN cd (pos + 1) * 10) + (digN cd (pos + 1 + 1) * 1)))), (5, .int (nI (digN cd (pos + 1 + 1)))), (4, .int 1), (0, .ref h), (1, .int 100), (2, .int (nI hi9))]) hx hb dX8_readNumber_44 rfl hl (by decide) rfl (fun ls hl => ?_)
                          refine lv_aload_n hx hb dX8_readNumber_45 rfl (lv_at hl 3 rfl) ?_
                          refine lv_dup hx hb dX8_readNumber_46 rfl ?_
                          refine va_get (D := D) (ci := 7) (v := .int (nI (pos + 1 + 1))) (C := RX8) (T := TX8) (N := 7) hx hb hts i_X8 hown hK hP 0 rfl rfl 2 (by decide) (hts (Cond.fieldLink RX8 35 "BrownClock$Text" "position" "I") (List.mem_of_getElem? (i := 2) rfl)) (fun _ h9 => h9) rfl dX8_readNumber_47 ?_
                          refine lv_iconst (v := 1) hx hb dX8_readNumber_50 (by decide) ?_
                          refine k_iadd (v := (nI (pos + 1 + 1 + 1))) hx hb dX8_readNumber_51 (nI_add (pos + 1 + 1) (1)) ?_
                          refine va_put (D := D) (ci := 7) (v := .int (nI (pos + 1 + 1 + 1))) (ty := .int) (C := RX8) (T := TX8) (N := 7) hx hb hts i_X8 tyX8 tyX8_ok nmX8 hown hK hP hD hS 0 rfl rfl 2 (by decide) (hts (Cond.fieldLink RX8 35 "BrownClock$Text" "position" "I") (List.mem_of_getElem? (i := 2) rfl)) (fun _ h9 => h9) rfl (by decide +kernel) rfl rfl (Nat.le_of_ble_eq_true rfl) dX8_readNumber_52 (fun H locs hP hD hS => ?_)
                          have hP : va_P D vwCl (fl [[ob h 7 [.ref cod, .int (nI ln), .int (nI (pos + 1 + 1 + 1)), .int (nI na), .int (nI np), .int (nI nr), .ref told]], [ia ty cod 60 cd]]) H := hP
                          have hD : va_D A (fl [[ob h 7 [.ref cod, .int (nI ln), .int (nI (pos + 1 + 1 + 1)), .int (nI na), .int (nI np), .int (nI nr), .ref told]], [ia ty cod 60 cd]]) := hD
                          refine lv_iload hx hb dX8_readNumber_55 (lv_at hl 2 rfl) ?_
                          refine lv_bipush (v := 10) hx hb dX8_readNumber_57 (by decide) ?_
                          refine k_idiv (v := 0) hx hb dX8_readNumber_59 (by decide) (by decide) ?_
                          refine lv_istore (lv' := [(4, .int 0), (3, .int (nI (0 + digN cd pos * 100 + (digN cd (pos + 1) * 10) + (digN cd (pos + 1 + 1) * 1)))), (5, .int (nI (digN cd (pos + 1 + 1)))), (0, .ref h), (1, .int 100), (2, .int (nI hi9))]) hx hb dX8_readNumber_60 hl (by decide) rfl (fun ls hl => ?_)
                          refine lv_goto (tgt := 5) hx hb dX8_readNumber_62 (by decide) ?_
                          refine lv_iload hx hb dX8_readNumber_5 (lv_at hl 0 rfl) ?_
                          refine lv_if_le (tgt := 65) hx hb dX8_readNumber_7 (by decide) (fun c_19 => ?_) (fun c_19 => ?_)
                          · skip
                            refine lv_iload_n hx hb dX8_readNumber_65 rfl (lv_at hl 1 rfl) ?_
                            have hz7_0 := nle_of (a := 100) (b := 0) (by omega) (by omega) c_1
                            have hz31_2 := (nI_leI (a := 0 + digN cd pos * 100) (b := hi9) (by omega) (by omega)).mp c_6
                            have hz7_3 := nle_of (a := 10) (b := 0) (by omega) (by omega) c_7
                            have hz31_5 := (nI_leI (a := 0 + digN cd pos * 100 + (digN cd (pos + 1) * 10)) (b := hi9) (by omega) (by omega)).mp c_12
                            have hz7_6 := nle_of (a := 1) (b := 0) (by omega) (by omega) c_13
                            have hz31_8 := (nI_leI (a := 0 + digN cd pos * 100 + (digN cd (pos + 1) * 10) + (digN cd (pos + 1 + 1) * 1)) (b := hi9) (by omega) (by omega)).mp c_18
                            have hz7_9 := (nI_leI (a := 0) (b := 0) (by omega) (by omega)).mp c_19
                            have hv1 : numV cd ln [100, 10, 1] hi9 0 pos = _ := (numV_y ⟨hd_1, by omega⟩).1.trans ((numV_y ⟨hd_4, by omega⟩).1.trans ((numV_y ⟨hd_7, by omega⟩).1))
                            have hv2 : numP cd ln [100, 10, 1] hi9 0 pos = _ := (numV_y ⟨hd_1, by omega⟩).2.trans ((numV_y ⟨hd_4, by omega⟩).2.trans ((numV_y ⟨hd_7, by omega⟩).2))
                            have hP : va_P D vwCl (fl [[ob h 7 [.ref cod, .int (nI ln), .int (nI (numP cd ln [100, 10, 1] hi9 0 pos)), .int (nI na), .int (nI np), .int (nI nr), .ref told]], [ia ty cod 60 cd]]) H := by rw [hv2]; exact hP
                            have hD : va_D A (fl [[ob h 7 [.ref cod, .int (nI ln), .int (nI (numP cd ln [100, 10, 1] hi9 0 pos)), .int (nI na), .int (nI np), .int (nI nr), .ref told]], [ia ty cod 60 cd]]) := (D_same2 hD [h, cod] rfl rfl)
                            exact end_i (bs' := (fun (_ : Unit) => [[ob h 7 [.ref cod, .int (nI ln), .int (nI (numP cd ln [100, 10, 1] hi9 0 pos)), .int (nI na), .int (nI np), .int (nI nr), .ref told]], [ia ty cod 60 cd]])) () hx hb hr hlocks hP hD hS (by rw [hv1]; rfl) (Nat.le_of_ble_eq_true rfl) (Nat.le_of_ble_eq_true rfl) dX8_readNumber_66
                          · exact absurd (by decide) c_19
                        · skip
                          refine lv_ldc hx hb hown (hts (Cond.constant RX8 41 (-99999999)) (List.mem_of_getElem? (i := 1) rfl)) dX8_readNumber_34 ?_
                          have hz7_0 := nle_of (a := 100) (b := 0) (by omega) (by omega) c_1
                          have hz31_2 := (nI_leI (a := 0 + digN cd pos * 100) (b := hi9) (by omega) (by omega)).mp c_6
                          have hz7_3 := nle_of (a := 10) (b := 0) (by omega) (by omega) c_7
                          have hz31_5 := (nI_leI (a := 0 + digN cd pos * 100 + (digN cd (pos + 1) * 10)) (b := hi9) (by omega) (by omega)).mp c_12
                          have hz7_6 := nle_of (a := 1) (b := 0) (by omega) (by omega) c_13
                          have hz31_8 := nle_of (a := 0 + digN cd pos * 100 + (digN cd (pos + 1) * 10) + (digN cd (pos + 1 + 1) * 1)) (b := hi9) (by omega) (by omega) c_18
                          have hv1 : numV cd ln [100, 10, 1] hi9 0 pos = _ := (numV_y ⟨hd_1, by omega⟩).1.trans ((numV_y ⟨hd_4, by omega⟩).1.trans ((numV_n (fun q => by first | exact hd_7 q.1 | omega)).1))
                          have hv2 : numP cd ln [100, 10, 1] hi9 0 pos = _ := (numV_y ⟨hd_1, by omega⟩).2.trans ((numV_y ⟨hd_4, by omega⟩).2.trans ((numV_n (fun q => by first | exact hd_7 q.1 | omega)).2))
                          have hP : va_P D vwCl (fl [[ob h 7 [.ref cod, .int (nI ln), .int (nI (numP cd ln [100, 10, 1] hi9 0 pos)), .int (nI na), .int (nI np), .int (nI nr), .ref told]], [ia ty cod 60 cd]]) H := by rw [hv2]; exact hP
                          have hD : va_D A (fl [[ob h 7 [.ref cod, .int (nI ln), .int (nI (numP cd ln [100, 10, 1] hi9 0 pos)), .int (nI na), .int (nI np), .int (nI nr), .ref told]], [ia ty cod 60 cd]]) := (D_same2 hD [h, cod] rfl rfl)
                          exact end_i (bs' := (fun (_ : Unit) => [[ob h 7 [.ref cod, .int (nI ln), .int (nI (numP cd ln [100, 10, 1] hi9 0 pos)), .int (nI na), .int (nI np), .int (nI nr), .ref told]], [ia ty cod 60 cd]])) () hx hb hr hlocks hP hD hS (by rw [hv1]; rfl) (Nat.le_of_ble_eq_true rfl) (Nat.le_of_ble_eq_true rfl) dX8_readNumber_36
                    · have hd9 := hd_7
                      refine W.eq (g2 := F0 m 14 ls [.int (-99999999)]) (by rw [if_neg hd_7]) ?_
                      refine lv_istore (lv' := [(5, .int (-99999999)), (4, .int 1), (3, .int (nI (0 + digN cd pos * 100 + (digN cd (pos + 1) * 10)))), (0, .ref h), (1, .int 100), (2, .int (nI hi9))]) hx hb dX8_readNumber_14 hl (by decide) rfl (fun ls hl => ?_)
                      refine lv_iload hx hb dX8_readNumber_16 (lv_at hl 0 rfl) ?_
                      refine lv_ldc hx hb hown (hts (Cond.constant RX8 41 (-99999999)) (List.mem_of_getElem? (i := 1) rfl)) dX8_readNumber_18 ?_
                      refine lv_icmp_eq (tgt := 34) hx hb dX8_readNumber_20 (by decide) (fun c_20 => ?_) (fun c_20 => ?_)
                      · skip
                        refine lv_ldc hx hb hown (hts (Cond.constant RX8 41 (-99999999)) (List.mem_of_getElem? (i := 1) rfl)) dX8_readNumber_34 ?_
                        have hz7_0 := nle_of (a := 100) (b := 0) (by omega) (by omega) c_1
                        have hz31_2 := (nI_leI (a := 0 + digN cd pos * 100) (b := hi9) (by omega) (by omega)).mp c_6
                        have hz7_3 := nle_of (a := 10) (b := 0) (by omega) (by omega) c_7
                        have hz31_5 := (nI_leI (a := 0 + digN cd pos * 100 + (digN cd (pos + 1) * 10)) (b := hi9) (by omega) (by omega)).mp c_12
                        have hz7_6 := nle_of (a := 1) (b := 0) (by omega) (by omega) c_13
                        have hv1 : numV cd ln [100, 10, 1] hi9 0 pos = _ := (numV_y ⟨hd_1, by omega⟩).1.trans ((numV_y ⟨hd_4, by omega⟩).1.trans ((numV_n (fun q => by first | exact hd_7 q.1 | omega)).1))
                        have hv2 : numP cd ln [100, 10, 1] hi9 0 pos = _ := (numV_y ⟨hd_1, by omega⟩).2.trans ((numV_y ⟨hd_4, by omega⟩).2.trans ((numV_n (fun q => by first | exact hd_7 q.1 | omega)).2))
                        have hP : va_P D vwCl (fl [[ob h 7 [.ref cod, .int (nI ln), .int (nI (numP cd ln [100, 10, 1] hi9 0 pos)), .int (nI na), .int (nI np), .int (nI nr), .ref told]], [ia ty cod 60 cd]]) H := by rw [hv2]; exact hP
                        have hD : va_D A (fl [[ob h 7 [.ref cod, .int (nI ln), .int (nI (numP cd ln [100, 10, 1] hi9 0 pos)), .int (nI na), .int (nI np), .int (nI nr), .ref told]], [ia ty cod 60 cd]]) := (D_same2 hD [h, cod] rfl rfl)
                        exact end_i (bs' := (fun (_ : Unit) => [[ob h 7 [.ref cod, .int (nI ln), .int (nI (numP cd ln [100, 10, 1] hi9 0 pos)), .int (nI na), .int (nI np), .int (nI nr), .ref told]], [ia ty cod 60 cd]])) () hx hb hr hlocks hP hD hS (by rw [hv1]; rfl) (Nat.le_of_ble_eq_true rfl) (Nat.le_of_ble_eq_true rfl) dX8_readNumber_36
                      · exact absurd (by decide) c_20
                · skip
                  refine lv_ldc hx hb hown (hts (Cond.constant RX8 41 (-99999999)) (List.mem_of_getElem? (i := 1) rfl)) dX8_readNumber_34 ?_
                  have hz7_0 := nle_of (a := 100) (b := 0) (by omega) (by omega) c_1
                  have hz31_2 := (nI_leI (a := 0 + digN cd pos * 100) (b := hi9) (by omega) (by omega)).mp c_6
                  have hz7_3 := nle_of (a := 10) (b := 0) (by omega) (by omega) c_7
                  have hz31_5 := nle_of (a := 0 + digN cd pos * 100 + (digN cd (pos + 1) * 10)) (b := hi9) (by omega) (by omega) c_12
                  have hv1 : numV cd ln [100, 10, 1] hi9 0 pos = _ := (numV_y ⟨hd_1, by omega⟩).1.trans ((numV_n (fun q => by first | exact hd_4 q.1 | omega)).1)
                  have hv2 : numP cd ln [100, 10, 1] hi9 0 pos = _ := (numV_y ⟨hd_1, by omega⟩).2.trans ((numV_n (fun q => by first | exact hd_4 q.1 | omega)).2)
                  have hP : va_P D vwCl (fl [[ob h 7 [.ref cod, .int (nI ln), .int (nI (numP cd ln [100, 10, 1] hi9 0 pos)), .int (nI na), .int (nI np), .int (nI nr), .ref told]], [ia ty cod 60 cd]]) H := by rw [hv2]; exact hP
                  have hD : va_D A (fl [[ob h 7 [.ref cod, .int (nI ln), .int (nI (numP cd ln [100, 10, 1] hi9 0 pos)), .int (nI na), .int (nI np), .int (nI nr), .ref told]], [ia ty cod 60 cd]]) := (D_same2 hD [h, cod] rfl rfl)
                  exact end_i (bs' := (fun (_ : Unit) => [[ob h 7 [.ref cod, .int (nI ln), .int (nI (numP cd ln [100, 10, 1] hi9 0 pos)), .int (nI na), .int (nI np), .int (nI nr), .ref told]], [ia ty cod 60 cd]])) () hx hb hr hlocks hP hD hS (by rw [hv1]; rfl) (Nat.le_of_ble_eq_true rfl) (Nat.le_of_ble_eq_true rfl) dX8_readNumber_36
            · have hd9 := hd_4
              refine W.eq (g2 := F0 m 14 ls [.int (-99999999)]) (by rw [if_neg hd_4]) ?_
              refine lv_istore (lv' := [(5, .int (-99999999)), (4, .int 10), (3, .int (nI (0 + digN cd pos * 100))), (0, .ref h), (1, .int 100), (2, .int (nI hi9))]) hx hb dX8_readNumber_14 hl (by decide) rfl (fun ls hl => ?_)
              refine lv_iload hx hb dX8_readNumber_16 (lv_at hl 0 rfl) ?_
              refine lv_ldc hx hb hown (hts (Cond.constant RX8 41 (-99999999)) (List.mem_of_getElem? (i := 1) rfl)) dX8_readNumber_18 ?_
              refine lv_icmp_eq (tgt := 34) hx hb dX8_readNumber_20 (by decide) (fun c_21 => ?_) (fun c_21 => ?_)
              · skip
                refine lv_ldc hx hb hown (hts (Cond.constant RX8 41 (-99999999)) (List.mem_of_getElem? (i := 1) rfl)) dX8_readNumber_34 ?_
                have hz7_0 := nle_of (a := 100) (b := 0) (by omega) (by omega) c_1
                have hz31_2 := (nI_leI (a := 0 + digN cd pos * 100) (b := hi9) (by omega) (by omega)).mp c_6
                have hz7_3 := nle_of (a := 10) (b := 0) (by omega) (by omega) c_7
                have hv1 : numV cd ln [100, 10, 1] hi9 0 pos = _ := (numV_y ⟨hd_1, by omega⟩).1.trans ((numV_n (fun q => by first | exact hd_4 q.1 | omega)).1)
                have hv2 : numP cd ln [100, 10, 1] hi9 0 pos = _ := (numV_y ⟨hd_1, by omega⟩).2.trans ((numV_n (fun q => by first | exact hd_4 q.1 | omega)).2)
                have hP : va_P D vwCl (fl [[ob h 7 [.ref cod, .int (nI ln), .int (nI (numP cd ln [100, 10, 1] hi9 0 pos)), .int (nI na), .int (nI np), .int (nI nr), .ref told]], [ia ty cod 60 cd]]) H := by rw [hv2]; exact hP
                have hD : va_D A (fl [[ob h 7 [.ref cod, .int (nI ln), .int (nI (numP cd ln [100, 10, 1] hi9 0 pos)), .int (nI na), .int (nI np), .int (nI nr), .ref told]], [ia ty cod 60 cd]]) := (D_same2 hD [h, cod] rfl rfl)
                exact end_i (bs' := (fun (_ : Unit) => [[ob h 7 [.ref cod, .int (nI ln), .int (nI (numP cd ln [100, 10, 1] hi9 0 pos)), .int (nI na), .int (nI np), .int (nI nr), .ref told]], [ia ty cod 60 cd]])) () hx hb hr hlocks hP hD hS (by rw [hv1]; rfl) (Nat.le_of_ble_eq_true rfl) (Nat.le_of_ble_eq_true rfl) dX8_readNumber_36
              · exact absurd (by decide) c_21
        · skip
          refine lv_ldc hx hb hown (hts (Cond.constant RX8 41 (-99999999)) (List.mem_of_getElem? (i := 1) rfl)) dX8_readNumber_34 ?_
          have hz7_0 := nle_of (a := 100) (b := 0) (by omega) (by omega) c_1
          have hz31_2 := nle_of (a := 0 + digN cd pos * 100) (b := hi9) (by omega) (by omega) c_6
          have hv1 : numV cd ln [100, 10, 1] hi9 0 pos = _ := (numV_n (fun q => by first | exact hd_1 q.1 | omega)).1
          have hv2 : numP cd ln [100, 10, 1] hi9 0 pos = _ := (numV_n (fun q => by first | exact hd_1 q.1 | omega)).2
          have hP : va_P D vwCl (fl [[ob h 7 [.ref cod, .int (nI ln), .int (nI (numP cd ln [100, 10, 1] hi9 0 pos)), .int (nI na), .int (nI np), .int (nI nr), .ref told]], [ia ty cod 60 cd]]) H := by rw [hv2]; exact hP
          have hD : va_D A (fl [[ob h 7 [.ref cod, .int (nI ln), .int (nI (numP cd ln [100, 10, 1] hi9 0 pos)), .int (nI na), .int (nI np), .int (nI nr), .ref told]], [ia ty cod 60 cd]]) := (D_same2 hD [h, cod] rfl rfl)
          exact end_i (bs' := (fun (_ : Unit) => [[ob h 7 [.ref cod, .int (nI ln), .int (nI (numP cd ln [100, 10, 1] hi9 0 pos)), .int (nI na), .int (nI np), .int (nI nr), .ref told]], [ia ty cod 60 cd]])) () hx hb hr hlocks hP hD hS (by rw [hv1]; rfl) (Nat.le_of_ble_eq_true rfl) (Nat.le_of_ble_eq_true rfl) dX8_readNumber_36
    · have hd9 := hd_1
      refine W.eq (g2 := F0 m 14 ls [.int (-99999999)]) (by rw [if_neg hd_1]) ?_
      refine lv_istore (lv' := [(5, .int (-99999999)), (4, .int 100), (3, .int 0), (0, .ref h), (1, .int 100), (2, .int (nI hi9))]) hx hb dX8_readNumber_14 hl (by decide) rfl (fun ls hl => ?_)
      refine lv_iload hx hb dX8_readNumber_16 (lv_at hl 0 rfl) ?_
      refine lv_ldc hx hb hown (hts (Cond.constant RX8 41 (-99999999)) (List.mem_of_getElem? (i := 1) rfl)) dX8_readNumber_18 ?_
      refine lv_icmp_eq (tgt := 34) hx hb dX8_readNumber_20 (by decide) (fun c_22 => ?_) (fun c_22 => ?_)
      · skip
        refine lv_ldc hx hb hown (hts (Cond.constant RX8 41 (-99999999)) (List.mem_of_getElem? (i := 1) rfl)) dX8_readNumber_34 ?_
        have hz7_0 := nle_of (a := 100) (b := 0) (by omega) (by omega) c_1
        have hv1 : numV cd ln [100, 10, 1] hi9 0 pos = _ := (numV_n (fun q => by first | exact hd_1 q.1 | omega)).1
        have hv2 : numP cd ln [100, 10, 1] hi9 0 pos = _ := (numV_n (fun q => by first | exact hd_1 q.1 | omega)).2
        have hP : va_P D vwCl (fl [[ob h 7 [.ref cod, .int (nI ln), .int (nI (numP cd ln [100, 10, 1] hi9 0 pos)), .int (nI na), .int (nI np), .int (nI nr), .ref told]], [ia ty cod 60 cd]]) H := by rw [hv2]; exact hP
        have hD : va_D A (fl [[ob h 7 [.ref cod, .int (nI ln), .int (nI (numP cd ln [100, 10, 1] hi9 0 pos)), .int (nI na), .int (nI np), .int (nI nr), .ref told]], [ia ty cod 60 cd]]) := (D_same2 hD [h, cod] rfl rfl)
        exact end_i (bs' := (fun (_ : Unit) => [[ob h 7 [.ref cod, .int (nI ln), .int (nI (numP cd ln [100, 10, 1] hi9 0 pos)), .int (nI na), .int (nI np), .int (nI nr), .ref told]], [ia ty cod 60 cd]])) () hx hb hr hlocks hP hD hS (by rw [hv1]; rfl) (Nat.le_of_ble_eq_true rfl) (Nat.le_of_ble_eq_true rfl) dX8_readNumber_36
      · exact absurd (by decide) c_22
set_option maxHeartbeats 4000000 in
set_option maxRecDepth 100000 in
theorem c_X8_readNumber4 (l : Launch) (D : va_G) (ty : Nat → ClassId) (h cod told : Nat) (cd : Nat → Int32) (ln pos na np nr : Nat) (hi9 : Nat) (hl6 : ln ≤ 60) (hp6 : pos < 1000) (hh9 : hi9 < 100000) : CTi l yX8_readNumber wsX8_readNumber ({ frames := 2, cells := 0, slots := 0, locals := 41 }) D ty [.ref h, .int 1000, .int (nI hi9)] [[ob h 7 [.ref cod, .int (nI ln), .int (nI pos), .int (nI na), .int (nI np), .int (nI nr), .ref told]], [ia ty cod 60 cd]] (fun (RET : Int32) (_ : Unit) => RET = (onV (numV cd ln [1000, 100, 10, 1] hi9 0 pos))) (fun (_ : Unit) => [[ob h 7 [.ref cod, .int (nI ln), .int (nI (numP cd ln [1000, 100, 10, 1] hi9 0 pos)), .int (nI na), .int (nI np), .int (nI nr), .ref told]], [ia ty cod 60 cd]]) := by
  refine CTi_of cX8_readNumber 6 (some .int) (by decide) rfl (Nat.le_of_ble_eq_true rfl) ?_
  intro p e s m args below meth c A hx hb hr hml hown hlocks hin hts hA hX hK hP hD ls hl
  have hown : s.vm.findClass RX8 = some m.cls := hown
  have hS : va_S A s.heap s.heap [] := va_S.rf
  have i_X8 : ∀ z ∈ wsX80, z ∈ wsX8_readNumber := fun z h => List.mem_cons_of_mem _ (List.mem_append_right _ h)
  have hl : lv_has ls 6 [(0, .ref h), (1, .int 1000), (2, .int (nI hi9))] := hl
  refine lv_iconst (v := 0) hx hb dX8_readNumber_0 (by decide) ?_
  refine lv_istore_n (lv' := [(3, .int 0), (0, .ref h), (1, .int 1000), (2, .int (nI hi9))]) hx hb dX8_readNumber_1 rfl hl (by decide) rfl (fun ls hl => ?_)
  refine lv_iload_n hx hb dX8_readNumber_2 rfl (lv_at hl 2 rfl) ?_
  refine lv_istore (lv' := [(4, .int 1000), (3, .int 0), (0, .ref h), (1, .int 1000), (2, .int (nI hi9))]) hx hb dX8_readNumber_3 hl (by decide) rfl (fun ls hl => ?_)
  refine lv_iload hx hb dX8_readNumber_5 (lv_at hl 0 rfl) ?_
  refine lv_if_le (tgt := 65) hx hb dX8_readNumber_7 (by decide) (fun c_1 => ?_) (fun c_1 => ?_)
  · exact absurd c_1 (by decide)
  · skip
    refine lv_aload_n hx hb dX8_readNumber_10 rfl (lv_at hl 2 rfl) ?_
    refine cVi (As := []) (rest := []) ⟨hx, hb, hml, hown, hts⟩ (c_X8_digitHere l D ty h cod told cd ln pos na np nr (hl6) (by omega)) (cwV 0 hts gX8_readNumber_X8_digitHere rfl rfl rfl (by decide +kernel) ⟨Nat.le_of_ble_eq_true rfl, Nat.le_of_ble_eq_true rfl⟩) hK hX hP hD hS hA (pk (bs := [[ob h 7 [.ref cod, .int (nI ln), .int (nI pos), .int (nI na), .int (nI np), .int (nI nr), .ref told]], [ia ty cod 60 cd]]) (bsc := [[ob h 7 [.ref cod, .int (nI ln), .int (nI pos), .int (nI na), .int (nI np), .int (nI nr), .ref told]], [ia ty cod 60 cd]]) (bsr := []) [0, 1] [] 2 rfl (by decide +kernel) rfl rfl) (ci := 7) rfl 0 rfl rfl hl.1 rfl (Nat.le_of_ble_eq_true rfl) dX8_readNumber_11 ⟨Nat.le_of_ble_eq_true rfl, Nat.le_of_ble_eq_true rfl⟩ (fun r_3 u_2 h_4 H locs hP hD hS => ?_)
    have h_4 : r_3 = (if isDig cd ln pos then nI (digN cd pos) else -99999999) := h_4
    subst h_4
    have hP : va_P D vwCl (fl [[ob h 7 [.ref cod, .int (nI ln), .int (nI pos), .int (nI na), .int (nI np), .int (nI nr), .ref told]], [ia ty cod 60 cd]]) H := P_perm (po (bs := [[ob h 7 [.ref cod, .int (nI ln), .int (nI pos), .int (nI na), .int (nI np), .int (nI nr), .ref told]], [ia ty cod 60 cd]]) [0, 1] 2 rfl (by decide +kernel) rfl) hP
    have hD : va_D A (fl [[ob h 7 [.ref cod, .int (nI ln), .int (nI pos), .int (nI na), .int (nI np), .int (nI nr), .ref told]], [ia ty cod 60 cd]]) := D_perm (po (bs := [[ob h 7 [.ref cod, .int (nI ln), .int (nI pos), .int (nI na), .int (nI np), .int (nI nr), .ref told]], [ia ty cod 60 cd]]) [0, 1] 2 rfl (by decide +kernel) rfl) hD
    rcases Classical.em (isDig cd ln pos) with hd_1 | hd_1
    · have hd9 := (dig_nI hd_1).2
      refine W.eq (g2 := F0 m 14 ls [.int (nI (digN cd pos))]) (by rw [if_pos hd_1]) ?_
      refine lv_istore (lv' := [(5, .int (nI (digN cd pos))), (4, .int 1000), (3, .int 0), (0, .ref h), (1, .int 1000), (2, .int (nI hi9))]) hx hb dX8_readNumber_14 hl (by decide) rfl (fun ls hl => ?_)
      refine lv_iload hx hb dX8_readNumber_16 (lv_at hl 0 rfl) ?_
      refine lv_ldc hx hb hown (hts (Cond.constant RX8 41 (-99999999)) (List.mem_of_getElem? (i := 1) rfl)) dX8_readNumber_18 ?_
      refine lv_icmp_eq (tgt := 34) hx hb dX8_readNumber_20 (by decide) (fun c_5 => ?_) (fun c_5 => ?_)
      · first | exact absurd c_5 (nI_nn (n := digN cd pos) (by omega)) | exact absurd (nI_nn (n := digN cd pos) (by omega)) c_5
      · skip
        refine lv_iload_n hx hb dX8_readNumber_23 rfl (lv_at hl 2 rfl) ?_
        refine lv_iload hx hb dX8_readNumber_24 (lv_at hl 0 rfl) ?_
        refine lv_iload hx hb dX8_readNumber_26 (lv_at hl 1 rfl) ?_
        refine k_imul (v := (nI (digN cd pos * 1000))) hx hb dX8_readNumber_28 (nI_mul (digN cd pos) (1000)) ?_
        refine k_iadd (v := (nI (0 + digN cd pos * 1000))) hx hb dX8_readNumber_29 (nI_add (0) (digN cd pos * 1000)) ?_
        refine lv_iload_n hx hb dX8_readNumber_30 rfl (lv_at hl 5 rfl) ?_
        refine lv_icmp_le (tgt := 37) hx hb dX8_readNumber_31 (by decide) (fun c_6 => ?_) (fun c_6 => ?_)
        · skip
          refine lv_iload_n hx hb dX8_readNumber_37 rfl (lv_at hl 2 rfl) ?_
          refine lv_iload hx hb dX8_readNumber_38 (lv_at hl 0 rfl) ?_
          refine lv_iload hx hb dX8_readNumber_40 (lv_at hl 1 rfl) ?_
          refine k_imul (v := (nI (digN cd pos * 1000))) hx hb dX8_readNumber_42 (nI_mul (digN cd pos) (1000)) ?_
          refine k_iadd (v := (nI (0 + digN cd pos * 1000))) hx hb dX8_readNumber_43 (nI_add (0) (digN cd pos * 1000)) ?_
          refine lv_istore_n (lv' := [(3, .int (nI (0 + digN cd pos * 1000))), (5, .int (nI (digN cd pos))), (4, .int 1000), (0, .ref h), (1, .int 1000), (2, .int (nI hi9))]) hx hb dX8_readNumber_44 rfl hl (by decide) rfl (fun ls hl => ?_)
          refine lv_aload_n hx hb dX8_readNumber_45 rfl (lv_at hl 3 rfl) ?_
          refine lv_dup hx hb dX8_readNumber_46 rfl ?_
          refine va_get (D := D) (ci := 7) (v := .int (nI pos)) (C := RX8) (T := TX8) (N := 7) hx hb hts i_X8 hown hK hP 0 rfl rfl 2 (by decide) (hts (Cond.fieldLink RX8 35 "BrownClock$Text" "position" "I") (List.mem_of_getElem? (i := 2) rfl)) (fun _ h9 => h9) rfl dX8_readNumber_47 ?_
          refine lv_iconst (v := 1) hx hb dX8_readNumber_50 (by decide) ?_
          refine k_iadd (v := (nI (pos + 1))) hx hb dX8_readNumber_51 (nI_add (pos) (1)) ?_
          refine va_put (D := D) (ci := 7) (v := .int (nI (pos + 1))) (ty := .int) (C := RX8) (T := TX8) (N := 7) hx hb hts i_X8 tyX8 tyX8_ok nmX8 hown hK hP hD hS 0 rfl rfl 2 (by decide) (hts (Cond.fieldLink RX8 35 "BrownClock$Text" "position" "I") (List.mem_of_getElem? (i := 2) rfl)) (fun _ h9 => h9) rfl (by decide +kernel) rfl rfl (Nat.le_of_ble_eq_true rfl) dX8_readNumber_52 (fun H locs hP hD hS => ?_)
          have hP : va_P D vwCl (fl [[ob h 7 [.ref cod, .int (nI ln), .int (nI (pos + 1)), .int (nI na), .int (nI np), .int (nI nr), .ref told]], [ia ty cod 60 cd]]) H := hP
          have hD : va_D A (fl [[ob h 7 [.ref cod, .int (nI ln), .int (nI (pos + 1)), .int (nI na), .int (nI np), .int (nI nr), .ref told]], [ia ty cod 60 cd]]) := hD
          refine lv_iload hx hb dX8_readNumber_55 (lv_at hl 2 rfl) ?_
          refine lv_bipush (v := 10) hx hb dX8_readNumber_57 (by decide) ?_
          refine k_idiv (v := 100) hx hb dX8_readNumber_59 (by decide) (by decide) ?_
          refine lv_istore (lv' := [(4, .int 100), (3, .int (nI (0 + digN cd pos * 1000))), (5, .int (nI (digN cd pos))), (0, .ref h), (1, .int 1000), (2, .int (nI hi9))]) hx hb dX8_readNumber_60 hl (by decide) rfl (fun ls hl => ?_)
          refine lv_goto (tgt := 5) hx hb dX8_readNumber_62 (by decide) ?_
          refine lv_iload hx hb dX8_readNumber_5 (lv_at hl 0 rfl) ?_
          refine lv_if_le (tgt := 65) hx hb dX8_readNumber_7 (by decide) (fun c_7 => ?_) (fun c_7 => ?_)
          · exact absurd c_7 (by decide)
          · skip
            refine lv_aload_n hx hb dX8_readNumber_10 rfl (lv_at hl 3 rfl) ?_
            refine cVi (As := []) (rest := []) ⟨hx, hb, hml, hown, hts⟩ (c_X8_digitHere l D ty h cod told cd ln (pos + 1) na np nr (hl6) (by omega)) (cwV 0 hts gX8_readNumber_X8_digitHere rfl rfl rfl (by decide +kernel) ⟨Nat.le_of_ble_eq_true rfl, Nat.le_of_ble_eq_true rfl⟩) hK hX hP hD hS hA (pk (bs := [[ob h 7 [.ref cod, .int (nI ln), .int (nI (pos + 1)), .int (nI na), .int (nI np), .int (nI nr), .ref told]], [ia ty cod 60 cd]]) (bsc := [[ob h 7 [.ref cod, .int (nI ln), .int (nI (pos + 1)), .int (nI na), .int (nI np), .int (nI nr), .ref told]], [ia ty cod 60 cd]]) (bsr := []) [0, 1] [] 2 rfl (by decide +kernel) rfl rfl) (ci := 7) rfl 0 rfl rfl hl.1 rfl (Nat.le_of_ble_eq_true rfl) dX8_readNumber_11 ⟨Nat.le_of_ble_eq_true rfl, Nat.le_of_ble_eq_true rfl⟩ (fun r_9 u_8 h_10 H locs hP hD hS => ?_)
            have h_10 : r_9 = (if isDig cd ln (pos + 1) then nI (digN cd (pos + 1)) else -99999999) := h_10
            subst h_10
            have hP : va_P D vwCl (fl [[ob h 7 [.ref cod, .int (nI ln), .int (nI (pos + 1)), .int (nI na), .int (nI np), .int (nI nr), .ref told]], [ia ty cod 60 cd]]) H := P_perm (po (bs := [[ob h 7 [.ref cod, .int (nI ln), .int (nI (pos + 1)), .int (nI na), .int (nI np), .int (nI nr), .ref told]], [ia ty cod 60 cd]]) [0, 1] 2 rfl (by decide +kernel) rfl) hP
            have hD : va_D A (fl [[ob h 7 [.ref cod, .int (nI ln), .int (nI (pos + 1)), .int (nI na), .int (nI np), .int (nI nr), .ref told]], [ia ty cod 60 cd]]) := D_perm (po (bs := [[ob h 7 [.ref cod, .int (nI ln), .int (nI (pos + 1)), .int (nI na), .int (nI np), .int (nI nr), .ref told]], [ia ty cod 60 cd]]) [0, 1] 2 rfl (by decide +kernel) rfl) hD
            rcases Classical.em (isDig cd ln (pos + 1)) with hd_4 | hd_4
            · have hd9 := (dig_nI hd_4).2
              refine W.eq (g2 := F0 m 14 ls [.int (nI (digN cd (pos + 1)))]) (by rw [if_pos hd_4]) ?_
              refine lv_istore (lv' := [(5, .int (nI (digN cd (pos + 1)))), (4, .int 100), (3, .int (nI (0 + digN cd pos * 1000))), (0, .ref h), (1, .int 1000), (2, .int (nI hi9))]) hx hb dX8_readNumber_14 hl (by decide) rfl (fun ls hl => ?_)
              refine lv_iload hx hb dX8_readNumber_16 (lv_at hl 0 rfl) ?_
              refine lv_ldc hx hb hown (hts (Cond.constant RX8 41 (-99999999)) (List.mem_of_getElem? (i := 1) rfl)) dX8_readNumber_18 ?_
              refine lv_icmp_eq (tgt := 34) hx hb dX8_readNumber_20 (by decide) (fun c_11 => ?_) (fun c_11 => ?_)
              · first | exact absurd c_11 (nI_nn (n := digN cd (pos + 1)) (by omega)) | exact absurd (nI_nn (n := digN cd (pos + 1)) (by omega)) c_11
              · skip
                refine lv_iload_n hx hb dX8_readNumber_23 rfl (lv_at hl 2 rfl) ?_
                refine lv_iload hx hb dX8_readNumber_24 (lv_at hl 0 rfl) ?_
                refine lv_iload hx hb dX8_readNumber_26 (lv_at hl 1 rfl) ?_
                refine k_imul (v := (nI (digN cd (pos + 1) * 100))) hx hb dX8_readNumber_28 (nI_mul (digN cd (pos + 1)) (100)) ?_
                refine k_iadd (v := (nI (0 + digN cd pos * 1000 + (digN cd (pos + 1) * 100)))) hx hb dX8_readNumber_29 (nI_add (0 + digN cd pos * 1000) (digN cd (pos + 1) * 100)) ?_
                refine lv_iload_n hx hb dX8_readNumber_30 rfl (lv_at hl 5 rfl) ?_
                refine lv_icmp_le (tgt := 37) hx hb dX8_readNumber_31 (by decide) (fun c_12 => ?_) (fun c_12 => ?_)
                · skip
                  refine lv_iload_n hx hb dX8_readNumber_37 rfl (lv_at hl 2 rfl) ?_
                  refine lv_iload hx hb dX8_readNumber_38 (lv_at hl 0 rfl) ?_
                  refine lv_iload hx hb dX8_readNumber_40 (lv_at hl 1 rfl) ?_
                  refine k_imul (v := (nI (digN cd (pos + 1) * 100))) hx hb dX8_readNumber_42 (nI_mul (digN cd (pos + 1)) (100)) ?_
                  refine k_iadd (v := (nI (0 + digN cd pos * 1000 + (digN cd (pos + 1) * 100)))) hx hb dX8_readNumber_43 (nI_add (0 + digN cd pos * 1000) (digN cd (pos + 1) * 100)) ?_
                  refine lv_istore_n (lv' := [(3, .int (nI (0 + digN cd pos * 1000 + (digN cd (pos + 1) * 100)))), (5, .int (nI (digN cd (pos + 1)))), (4, .int 100), (0, .ref h), (1, .int 1000), (2, .int (nI hi9))]) hx hb dX8_readNumber_44 rfl hl (by decide) rfl (fun ls hl => ?_)
                  refine lv_aload_n hx hb dX8_readNumber_45 rfl (lv_at hl 3 rfl) ?_
                  refine lv_dup hx hb dX8_readNumber_46 rfl ?_
                  refine va_get (D := D) (ci := 7) (v := .int (nI (pos + 1))) (C := RX8) (T := TX8) (N := 7) hx hb hts i_X8 hown hK hP 0 rfl rfl 2 (by decide) (hts (Cond.fieldLink RX8 35 "BrownClock$Text" "position" "I") (List.mem_of_getElem? (i := 2) rfl)) (fun _ h9 => h9) rfl dX8_readNumber_47 ?_
                  refine lv_iconst (v := 1) hx hb dX8_readNumber_50 (by decide) ?_
                  refine k_iadd (v := (nI (pos + 1 + 1))) hx hb dX8_readNumber_51 (nI_add (pos + 1) (1)) ?_
                  refine va_put (D := D) (ci := 7) (v := .int (nI (pos + 1 + 1))) (ty := .int) (C := RX8) (T := TX8) (N := 7) hx hb hts i_X8 tyX8 tyX8_ok nmX8 hown hK hP hD hS 0 rfl rfl 2 (by decide) (hts (Cond.fieldLink RX8 35 "BrownClock$Text" "position" "I") (List.mem_of_getElem? (i := 2) rfl)) (fun _ h9 => h9) rfl (by decide +kernel) rfl rfl (Nat.le_of_ble_eq_true rfl) dX8_readNumber_52 (fun H locs hP hD hS => ?_)
                  have hP : va_P D vwCl (fl [[ob h 7 [.ref cod, .int (nI ln), .int (nI (pos + 1 + 1)), .int (nI na), .int (nI np), .int (nI nr), .ref told]], [ia ty cod 60 cd]]) H := hP
                  have hD : va_D A (fl [[ob h 7 [.ref cod, .int (nI ln), .int (nI (pos + 1 + 1)), .int (nI na), .int (nI np), .int (nI nr), .ref told]], [ia ty cod 60 cd]]) := hD
                  refine lv_iload hx hb dX8_readNumber_55 (lv_at hl 2 rfl) ?_
                  refine lv_bipush (v := 10) hx hb dX8_readNumber_57 (by decide) ?_
                  refine k_idiv (v := 10) hx hb dX8_readNumber_59 (by decide) (by decide) ?_
                  refine lv_istore (lv' := [(4, .int 10), (3, .int (nI (0 + digN cd pos * 1000 + (digN cd (pos + 1) * 100)))), (5, .int (nI (digN cd (pos + 1)))), (0, .ref h), (1, .int 1000), (2, .int (nI hi9))]) hx hb dX8_readNumber_60 hl (by decide) rfl (fun ls hl => ?_)
                  refine lv_goto (tgt := 5) hx hb dX8_readNumber_62 (by decide) ?_
                  refine lv_iload hx hb dX8_readNumber_5 (lv_at hl 0 rfl) ?_
                  refine lv_if_le (tgt := 65) hx hb dX8_readNumber_7 (by decide) (fun c_13 => ?_) (fun c_13 => ?_)
                  · exact absurd c_13 (by decide)
                  · skip
                    refine lv_aload_n hx hb dX8_readNumber_10 rfl (lv_at hl 3 rfl) ?_
                    refine cVi (As := []) (rest := []) ⟨hx, hb, hml, hown, hts⟩ (c_X8_digitHere l D ty h cod told cd ln (pos + 1 + 1) na np nr (hl6) (by omega)) (cwV 0 hts gX8_readNumber_X8_digitHere rfl rfl rfl (by decide +kernel) ⟨Nat.le_of_ble_eq_true rfl, Nat.le_of_ble_eq_true rfl⟩) hK hX hP hD hS hA (pk (bs := [[ob h 7 [.ref cod, .int (nI ln), .int (nI (pos + 1 + 1)), .int (nI na), .int (nI np), .int (nI nr), .ref told]], [ia ty cod 60 cd]]) (bsc := [[ob h 7 [.ref cod, .int (nI ln), .int (nI (pos + 1 + 1)), .int (nI na), .int (nI np), .int (nI nr), .ref told]], [ia ty cod 60 cd]]) (bsr := []) [0, 1] [] 2 rfl (by decide +kernel) rfl rfl) (ci := 7) rfl 0 rfl rfl hl.1 rfl (Nat.le_of_ble_eq_true rfl) dX8_readNumber_11 ⟨Nat.le_of_ble_eq_true rfl, Nat.le_of_ble_eq_true rfl⟩ (fun r_15 u_14 h_16 H locs hP hD hS => ?_)
                    have h_16 : r_15 = (if isDig cd ln (pos + 1 + 1) then nI (digN cd (pos + 1 + 1)) else -99999999) := h_16
                    subst h_16
                    have hP : va_P D vwCl (fl [[ob h 7 [.ref cod, .int (nI ln), .int (nI (pos + 1 + 1)), .int (nI na), .int (nI np), .int (nI nr), .ref told]], [ia ty cod 60 cd]]) H := P_perm (po (bs := [[ob h 7 [.ref cod, .int (nI ln), .int (nI (pos + 1 + 1)), .int (nI na), .int (nI np), .int (nI nr), .ref told]], [ia ty cod 60 cd]]) [0, 1] 2 rfl (by decide +kernel) rfl) hP
                    have hD : va_D A (fl [[ob h 7 [.ref cod, .int (nI ln), .int (nI (pos + 1 + 1)), .int (nI na), .int (nI np), .int (nI nr), .ref told]], [ia ty cod 60 cd]]) := D_perm (po (bs := [[ob h 7 [.ref cod, .int (nI ln), .int (nI (pos + 1 + 1)), .int (nI na), .int (nI np), .int (nI nr), .ref told]], [ia ty cod 60 cd]]) [0, 1] 2 rfl (by decide +kernel) rfl) hD
                    rcases Classical.em (isDig cd ln (pos + 1 + 1)) with hd_7 | hd_7
                    · have hd9 := (dig_nI hd_7).2
                      refine W.eq (g2 := F0 m 14 ls [.int (nI (digN cd (pos + 1 + 1)))]) (by rw [if_pos hd_7]) ?_
                      refine lv_istore (lv' := [(5, .int (nI (digN cd (pos + 1 + 1)))), (4, .int 10), (3, .int (nI (0 + digN cd pos * 1000 + (digN cd (pos + 1) * 100)))), (0, .ref h), (1, .int 1000), (2, .int (nI hi9))]) hx hb dX8_readNumber_14 hl (by decide) rfl (fun ls hl => ?_)
                      refine lv_iload hx hb dX8_readNumber_16 (lv_at hl 0 rfl) ?_
                      refine lv_ldc hx hb hown (hts (Cond.constant RX8 41 (-99999999)) (List.mem_of_getElem? (i := 1) rfl)) dX8_readNumber_18 ?_
                      refine lv_icmp_eq (tgt := 34) hx hb dX8_readNumber_20 (by decide) (fun c_17 => ?_) (fun c_17 => ?_)
                      · first | exact absurd c_17 (nI_nn (n := digN cd (pos + 1 + 1)) (by omega)) | exact absurd (nI_nn (n := digN cd (pos + 1 + 1)) (by omega)) c_17
                      · skip
                        refine lv_iload_n hx hb dX8_readNumber_23 rfl (lv_at hl 2 rfl) ?_
                        refine lv_iload hx hb dX8_readNumber_24 (lv_at hl 0 rfl) ?_
                        refine lv_iload hx hb dX8_readNumber_26 (lv_at hl 1 rfl) ?_
                        refine k_imul (v := (nI (digN cd (pos + 1 + 1) * 10))) hx hb dX8_readNumber_28 (nI_mul (digN cd (pos + 1 + 1)) (10)) ?_
                        refine k_iadd (v := (nI (0 + digN cd pos * 1000 + (digN cd (pos + 1) * 100) + (digN cd (pos + 1 + 1) * 10)))) hx hb dX8_readNumber_29 (nI_add (0 + digN cd pos * 1000 + (digN cd (pos + 1) * 100)) (digN cd (pos + 1 + 1) * 10)) ?_
                        refine lv_iload_n hx hb dX8_readNumber_30 rfl (lv_at hl 5 rfl) ?_
                        refine lv_icmp_le (tgt := 37) hx hb dX8_readNumber_31 (by decide) (fun c_18 => ?_) (fun c_18 => ?_)
                        · skip
                          refine lv_iload_n hx hb dX8_readNumber_37 rfl (lv_at hl 2 rfl) ?_
                          refine lv_iload hx hb dX8_readNumber_38 (lv_at hl 0 rfl) ?_
                          refine lv_iload hx hb dX8_readNumber_40 (lv_at hl 1 rfl) ?_
                          refine k_imul (v := (nI (digN cd (pos + 1 + 1) * 10))) hx hb dX8_readNumber_42 (nI_mul (digN cd (pos + 1 + 1)) (10)) ?_
                          refine k_iadd (v := (nI (0 + digN cd pos * 1000 + (digN cd (pos + 1) * 100) + (digN cd (pos + 1 + 1) * 10)))) hx hb dX8_readNumber_43 (nI_add (0 + digN cd pos * 1000 + (digN cd (pos + 1) * 100)) (digN cd (pos + 1 + 1) * 10)) ?_
                          refine lv_istore_n (lv' := [(3, .int (nI (0 + digN cd pos * 1000 + (digN cd (pos + 1) * 100) + (digN cd (pos + 1 + 1) * 10)))), (5, .int (nI (digN cd (pos + 1 + 1)))), (4, .int 10), (0, .ref h), (1, .int 1000), (2, .int (nI hi9))]) hx hb dX8_readNumber_44 rfl hl (by decide) rfl (fun ls hl => ?_)
                          refine lv_aload_n hx hb dX8_readNumber_45 rfl (lv_at hl 3 rfl) ?_
                          refine lv_dup hx hb dX8_readNumber_46 rfl ?_
                          refine va_get (D := D) (ci := 7) (v := .int (nI (pos + 1 + 1))) (C := RX8) (T := TX8) (N := 7) hx hb hts i_X8 hown hK hP 0 rfl rfl 2 (by decide) (hts (Cond.fieldLink RX8 35 "BrownClock$Text" "position" "I") (List.mem_of_getElem? (i := 2) rfl)) (fun _ h9 => h9) rfl dX8_readNumber_47 ?_
                          refine lv_iconst (v := 1) hx hb dX8_readNumber_50 (by decide) ?_
                          refine k_iadd (v := (nI (pos + 1 + 1 + 1))) hx hb dX8_readNumber_51 (nI_add (pos + 1 + 1) (1)) ?_
                          refine va_put (D := D) (ci := 7) (v := .int (nI (pos + 1 + 1 + 1))) (ty := .int) (C := RX8) (T := TX8) (N := 7) hx hb hts i_X8 tyX8 tyX8_ok nmX8 hown hK hP hD hS 0 rfl rfl 2 (by decide) (hts (Cond.fieldLink RX8 35 "BrownClock$Text" "position" "I") (List.mem_of_getElem? (i := 2) rfl)) (fun _ h9 => h9) rfl (by decide +kernel) rfl rfl (Nat.le_of_ble_eq_true rfl) dX8_readNumber_52 (fun H locs hP hD hS => ?_)
                          have hP : va_P D vwCl (fl [[ob h 7 [.ref cod, .int (nI ln), .int (nI (pos + 1 + 1 + 1)), .int (nI na), .int (nI np), .int (nI nr), .ref told]], [ia ty cod 60 cd]]) H := hP
                          have hD : va_D A (fl [[ob h 7 [.ref cod, .int (nI ln), .int (nI (pos + 1 + 1 + 1)), .int (nI na), .int (nI np), .int (nI nr), .ref told]], [ia ty cod 60 cd]]) := hD
                          refine lv_iload hx hb dX8_readNumber_55 (lv_at hl 2 rfl) ?_
                          refine lv_bipush (v := 10) hx hb dX8_readNumber_57 (by decide) ?_
                          refine k_idiv (v := 1) hx hb dX8_readNumber_59 (by decide) (by decide) ?_
                          refine lv_istore (lv' := [(4, .int 1), (3, .int (nI (0 + digN cd pos * 1000 + (digN cd (pos + 1) * 100) + (digN cd (pos + 1 + 1) * 10)))), (5, .int (nI (digN cd (pos + 1 + 1)))), (0, .ref h), (1, .int 1000), (2, .int (nI hi9))]) hx hb dX8_readNumber_60 hl (by decide) rfl (fun ls hl => ?_)
                          refine lv_goto (tgt := 5) hx hb dX8_readNumber_62 (by decide) ?_
                          refine lv_iload hx hb dX8_readNumber_5 (lv_at hl 0 rfl) ?_
                          refine lv_if_le (tgt := 65) hx hb dX8_readNumber_7 (by decide) (fun c_19 => ?_) (fun c_19 => ?_)
                          · exact absurd c_19 (by decide)
                          · skip
                            refine lv_aload_n hx hb dX8_readNumber_10 rfl (lv_at hl 3 rfl) ?_
                            refine cVi (As := []) (rest := []) ⟨hx, hb, hml, hown, hts⟩ (c_X8_digitHere l D ty h cod told cd ln (pos + 1 + 1 + 1) na np nr (hl6) (by omega)) (cwV 0 hts gX8_readNumber_X8_digitHere rfl rfl rfl (by decide +kernel) ⟨Nat.le_of_ble_eq_true rfl, Nat.le_of_ble_eq_true rfl⟩) hK hX hP hD hS hA (pk (bs := [[ob h 7 [.ref cod, .int (nI ln), .int (nI (pos + 1 + 1 + 1)), .int (nI na), .int (nI np), .int (nI nr), .ref told]], [ia ty cod 60 cd]]) (bsc := [[ob h 7 [.ref cod, .int (nI ln), .int (nI (pos + 1 + 1 + 1)), .int (nI na), .int (nI np), .int (nI nr), .ref told]], [ia ty cod 60 cd]]) (bsr := []) [0, 1] [] 2 rfl (by decide +kernel) rfl rfl) (ci := 7) rfl 0 rfl rfl hl.1 rfl (Nat.le_of_ble_eq_true rfl) dX8_readNumber_11 ⟨Nat.le_of_ble_eq_true rfl, Nat.le_of_ble_eq_true rfl⟩ (fun r_21 u_20 h_22 H locs hP hD hS => ?_)
                            have h_22 : r_21 = (if isDig cd ln (pos + 1 + 1 + 1) then nI (digN cd (pos + 1 + 1 + 1)) else -99999999) := h_22
                            subst h_22
                            have hP : va_P D vwCl (fl [[ob h 7 [.ref cod, .int (nI ln), .int (nI (pos + 1 + 1 + 1)), .int (nI na), .int (nI np), .int (nI nr), .ref told]], [ia ty cod 60 cd]]) H := P_perm (po (bs := [[ob h 7 [.ref cod, .int (nI ln), .int (nI (pos + 1 + 1 + 1)), .int (nI na), .int (nI np), .int (nI nr), .ref told]], [ia ty cod 60 cd]]) [0, 1] 2 rfl (by decide +kernel) rfl) hP
                            have hD : va_D A (fl [[ob h 7 [.ref cod, .int (nI ln), .int (nI (pos + 1 + 1 + 1)), .int (nI na), .int (nI np), .int (nI nr), .ref told]], [ia ty cod 60 cd]]) := D_perm (po (bs := [[ob h 7 [.ref cod, .int (nI ln), .int (nI (pos + 1 + 1 + 1)), .int (nI na), .int (nI np), .int (nI nr), .ref told]], [ia ty cod 60 cd]]) [0, 1] 2 rfl (by decide +kernel) rfl) hD
                            rcases Classical.em (isDig cd ln (pos + 1 + 1 + 1)) with hd_10 | hd_10
                            · have hd9 := (dig_nI hd_10).2
                              refine W.eq (g2 := F0 m 14 ls [.int (nI (digN cd (pos + 1 + 1 + 1)))]) (by rw [if_pos hd_10]) ?_
                              refine lv_istore (lv' := [(5, .int (nI (digN cd (pos + 1 + 1 + 1)))), (4, .int 1), (3, .int (nI (0 + digN cd pos * 1000 + (digN cd (pos + 1) * 100) + (digN cd (pos + 1 + 1) * 10)))), (0, .ref h), (1, .int 1000), (2, .int (nI hi9))]) hx hb dX8_readNumber_14 hl (by decide) rfl (fun ls hl => ?_)
                              refine lv_iload hx hb dX8_readNumber_16 (lv_at hl 0 rfl) ?_
                              refine lv_ldc hx hb hown (hts (Cond.constant RX8 41 (-99999999)) (List.mem_of_getElem? (i := 1) rfl)) dX8_readNumber_18 ?_
                              refine lv_icmp_eq (tgt := 34) hx hb dX8_readNumber_20 (by decide) (fun c_23 => ?_) (fun c_23 => ?_)
                              · first | exact absurd c_23 (nI_nn (n := digN cd (pos + 1 + 1 + 1)) (by omega)) | exact absurd (nI_nn (n := digN cd (pos + 1 + 1 + 1)) (by omega)) c_23
                              · skip
                                refine lv_iload_n hx hb dX8_readNumber_23 rfl (lv_at hl 2 rfl) ?_
                                refine lv_iload hx hb dX8_readNumber_24 (lv_at hl 0 rfl) ?_
                                refine lv_iload hx hb dX8_readNumber_26 (lv_at hl 1 rfl) ?_
                                refine k_imul (v := (nI (digN cd (pos + 1 + 1 + 1) * 1))) hx hb dX8_readNumber_28 (nI_mul (digN cd (pos + 1 + 1 + 1)) (1)) ?_
                                refine k_iadd (v := (nI (0 + digN cd pos * 1000 + (digN cd (pos + 1) * 100) + (digN cd (pos + 1 + 1) * 10) + (digN cd (pos + 1 + 1 + 1) * 1)))) hx hb dX8_readNumber_29 (nI_add (0 + digN cd pos * 1000 + (digN cd (pos + 1) * 100) + (digN cd (pos + 1 + 1) * 10)) (digN cd (pos + 1 + 1 + 1) * 1)) ?_
                                refine lv_iload_n hx hb dX8_readNumber_30 rfl (lv_at hl 5 rfl) ?_
                                refine lv_icmp_le (tgt := 37) hx hb dX8_readNumber_31 (by decide) (fun c_24 => ?_) (fun c_24 => ?_)
                                · skip
                                  refine lv_iload_n hx hb dX8_readNumber_37 rfl (lv_at hl 2 rfl) ?_
                                  refine lv_iload hx hb dX8_readNumber_38 (lv_at hl 0 rfl) ?_
                                  refine lv_iload hx hb dX8_readNumber_40 (lv_at hl 1 rfl) ?_
                                  refine k_imul (v := (nI (digN cd (pos + 1 + 1 + 1) * 1))) hx hb dX8_readNumber_42 (nI_mul (digN cd (pos + 1 + 1 + 1)) (1)) ?_
                                  refine k_iadd (v := (nI (0 + digN cd pos * 1000 + (digN cd (pos + 1) * 100) + (digN cd (pos + 1 + 1) * 10) + (digN cd (pos + 1 + 1 + 1) * 1)))) hx hb dX8_readNumber_43 (nI_add (0 + digN cd pos * 1000 + (digN cd (pos + 1) * 100) + (digN cd (pos + 1 + 1) * 10)) (digN cd (pos + 1 + 1 + 1) * 1)) ?_
                                  refine lv_istore_n (lv' := [(3, .int (nI (0 + digN cd pos * 1000 + (digN cd (pos + 1) * 100) + (digN cd (pos + 1 + 1) * 10) + (digN cd (pos + 1 + 1 + 1) * 1)))), (5, .int (nI (digN cd (pos + 1 + 1 + 1)))), (4, .int 1), (0, .ref h), (1, .int 1000), (2, .int (nI hi9))]) hx hb dX8_readNumber_44 rfl hl (by decide) rfl (fun ls hl => ?_)
                                  refine lv_aload_n hx hb dX8_readNumber_45 rfl (lv_at hl 3 rfl) ?_
                                  refine lv_dup hx hb dX8_readNumber_46 rfl ?_
                                  refine va_get (D := D) (ci := 7) (v := .int (nI (pos + 1 + 1 + 1))) (C := RX8) (T := TX8) (N := 7) hx hb hts i_X8 hown hK hP 0 rfl rfl 2 (by decide) (hts (Cond.fieldLink RX8 35 "BrownClock$Text" "position" "I") (List.mem_of_getElem? (i := 2) rfl)) (fun _ h9 => h9) rfl dX8_readNumber_47 ?_
                                  refine lv_iconst (v := 1) hx hb dX8_readNumber_50 (by decide) ?_
                                  refine k_iadd (v := (nI (pos + 1 + 1 + 1 + 1))) hx hb dX8_readNumber_51 (nI_add (pos + 1 + 1 + 1) (1)) ?_
                                  refine va_put (D := D) (ci := 7) (v := .int (nI (pos + 1 + 1 + 1 + 1))) (ty := .int) (C := RX8) (T := TX8) (N := 7) hx hb hts i_X8 tyX8 tyX8_ok nmX8 hown hK hP hD hS 0 rfl rfl 2 (by decide) (hts (Cond.fieldLink RX8 35 "BrownClock$Text" "position" "I") (List.mem_of_getElem? (i := 2) rfl)) (fun _ h9 => h9) rfl (by decide +kernel) rfl rfl (Nat.le_of_ble_eq_true rfl) dX8_readNumber_52 (fun H locs hP hD hS => ?_)
                                  have hP : va_P D vwCl (fl [[ob h 7 [.ref cod, .int (nI ln), .int (nI (pos + 1 + 1 + 1 + 1)), .int (nI na), .int (nI np), .int (nI nr), .ref told]], [ia ty cod 60 cd]]) H := hP
                                  have hD : va_D A (fl [[ob h 7 [.ref cod, .int (nI ln), .int (nI (pos + 1 + 1 + 1 + 1)), .int (nI na), .int (nI np), .int (nI nr), .ref told]], [ia ty cod 60 cd]]) := hD
                                  refine lv_iload hx hb dX8_readNumber_55 (lv_at hl 2 rfl) ?_
                                  refine lv_bipush (v := 10) hx hb dX8_readNumber_57 (by decide) ?_
                                  refine k_idiv (v := 0) hx hb dX8_readNumber_59 (by decide) (by decide) ?_
                                  refine lv_istore (lv' := [(4, .int 0), (3, .int (nI (0 + digN cd pos * 1000 + (digN cd (pos + 1) * 100) + (digN cd (pos + 1 + 1) * 10) + (digN cd (pos + 1 + 1 + 1) * 1)))), (5, .int (nI (digN cd (pos + 1 + 1 + 1)))), (0, .ref h), (1, .int 1000), (2, .int (nI hi9))]) hx hb dX8_readNumber_60 hl (by decide) rfl (fun ls hl => ?_)
                                  refine lv_goto (tgt := 5) hx hb dX8_readNumber_62 (by decide) ?_
                                  refine lv_iload hx hb dX8_readNumber_5 (lv_at hl 0 rfl) ?_
                                  refine lv_if_le (tgt := 65) hx hb dX8_readNumber_7 (by decide) (fun c_25 => ?_) (fun c_25 => ?_)
                                  · skip
                                    refine lv_iload_n hx hb dX8_readNumber_65 rfl (lv_at hl 1 rfl) ?_
                                    have hz7_0 := nle_of (a := 1000) (b := 0) (by omega) (by omega) c_1
                                    have hz31_2 := (nI_leI (a := 0 + digN cd pos * 1000) (b := hi9) (by omega) (by omega)).mp c_6
                                    have hz7_3 := nle_of (a := 100) (b := 0) (by omega) (by omega) c_7
                                    have hz31_5 := (nI_leI (a := 0 + digN cd pos * 1000 + (digN cd (pos + 1) * 100)) (b := hi9) (by omega) (by omega)).mp c_12
                                    have hz7_6 := nle_of (a := 10) (b := 0) (by omega) (by omega) c_13
                                    have hz31_8 := (nI_leI (a := 0 + digN cd pos * 1000 + (digN cd (pos + 1) * 100) + (digN cd (pos + 1 + 1) * 10)) (b := hi9) (by omega) (by omega)).mp c_18
                                    have hz7_9 := nle_of (a := 1) (b := 0) (by omega) (by omega) c_19
                                    have hz31_11 := (nI_leI (a := 0 + digN cd pos * 1000 + (digN cd (pos + 1) * 100) + (digN cd (pos + 1 + 1) * 10) + (digN cd (pos + 1 + 1 + 1) * 1)) (b := hi9) (by omega) (by omega)).mp c_24
                                    have hz7_12 := (nI_leI (a := 0) (b := 0) (by omega) (by omega)).mp c_25
                                    have hv1 : numV cd ln [1000, 100, 10, 1] hi9 0 pos = _ := (numV_y ⟨hd_1, by omega⟩).1.trans ((numV_y ⟨hd_4, by omega⟩).1.trans ((numV_y ⟨hd_7, by omega⟩).1.trans ((numV_y ⟨hd_10, by omega⟩).1)))
                                    have hv2 : numP cd ln [1000, 100, 10, 1] hi9 0 pos = _ := (numV_y ⟨hd_1, by omega⟩).2.trans ((numV_y ⟨hd_4, by omega⟩).2.trans ((numV_y ⟨hd_7, by omega⟩).2.trans ((numV_y ⟨hd_10, by omega⟩).2)))
                                    have hP : va_P D vwCl (fl [[ob h 7 [.ref cod, .int (nI ln), .int (nI (numP cd ln [1000, 100, 10, 1] hi9 0 pos)), .int (nI na), .int (nI np), .int (nI nr), .ref told]], [ia ty cod 60 cd]]) H := by rw [hv2]; exact hP
                                    have hD : va_D A (fl [[ob h 7 [.ref cod, .int (nI ln), .int (nI (numP cd ln [1000, 100, 10, 1] hi9 0 pos)), .int (nI na), .int (nI np), .int (nI nr), .ref told]], [ia ty cod 60 cd]]) := (D_same2 hD [h, cod] rfl rfl)
                                    exact end_i (bs' := (fun (_ : Unit) => [[ob h 7 [.ref cod, .int (nI ln), .int (nI (numP cd ln [1000, 100, 10, 1] hi9 0 pos)), .int (nI na), .int (nI np), .int (nI nr), .ref told]], [ia ty cod 60 cd]])) () hx hb hr hlocks hP hD hS (by rw [hv1]; rfl) (Nat.le_of_ble_eq_true rfl) (Nat.le_of_ble_eq_true rfl) dX8_readNumber_66
                                  · exact absurd (by decide) c_25
                                · skip
                                  refine lv_ldc hx hb hown (hts (Cond.constant RX8 41 (-99999999)) (List.mem_of_getElem? (i := 1) rfl)) dX8_readNumber_34 ?_
                                  have hz7_0 := nle_of (a := 1000) (b := 0) (by omega) (by omega) c_1
                                  have hz31_2 := (nI_leI (a := 0 + digN cd pos * 1000) (b := hi9) (by omega) (by omega)).mp c_6
                                  have hz7_3 := nle_of (a := 100) (b := 0) (by omega) (by omega) c_7
                                  have hz31_5 := (nI_leI (a := 0 + digN cd pos * 1000 + (digN cd (pos + 1) * 100)) (b := hi9) (by omega) (by omega)).mp c_12
                                  have hz7_6 := nle_of (a := 10) (b := 0) (by omega) (by omega) c_13
                                  have hz31_8 := (nI_leI (a := 0 + digN cd pos * 1000 + (digN cd (pos + 1) * 100) + (digN cd (pos + 1 + 1) * 10)) (b := hi9) (by omega) (by omega)).mp c_18
                                  have hz7_9 := nle_of (a := 1) (b := 0) (by omega) (by omega) c_19
                                  have hz31_11 := nle_of (a := 0 + digN cd pos * 1000 + (digN cd (pos + 1) * 100) + (digN cd (pos + 1 + 1) * 10) + (digN cd (pos + 1 + 1 + 1) * 1)) (b := hi9) (by omega) (by omega) c_24
                                  have hv1 : numV cd ln [1000, 100, 10, 1] hi9 0 pos = _ := (numV_y ⟨hd_1, by omega⟩).1.trans ((numV_y ⟨hd_4, by omega⟩).1.trans ((numV_y ⟨hd_7, by omega⟩).1.trans ((numV_n (fun q => by first | exact hd_10 q.1 | omega)).1)))
                                  have hv2 : numP cd ln [1000, 100, 10, 1] hi9 0 pos = _ := (numV_y ⟨hd_1, by omega⟩).2.trans ((numV_y ⟨hd_4, by omega⟩).2.trans ((numV_y ⟨hd_7, by omega⟩).2.trans ((numV_n (fun q => by first | exact hd_10 q.1 | omega)).2)))
                                  have hP : va_P D vwCl (fl [[ob h 7 [.ref cod, .int (nI ln), .int (nI (numP cd ln [1000, 100, 10, 1] hi9 0 pos)), .int (nI na), .int (nI np), .int (nI nr), .ref told]], [ia ty cod 60 cd]]) H := by rw [hv2]; exact hP
                                  have hD : va_D A (fl [[ob h 7 [.ref cod, .int (nI ln), .int (nI (numP cd ln [1000, 100, 10, 1] hi9 0 pos)), .int (nI na), .int (nI np), .int (nI nr), .ref told]], [ia ty cod 60 cd]]) := (D_same2 hD [h, cod] rfl rfl)
                                  exact end_i (bs' := (fun (_ : Unit) => [[ob h 7 [.ref cod, .int (nI ln), .int (nI (numP cd ln [1000, 100, 10, 1] hi9 0 pos)), .int (nI na), .int (nI np), .int (nI nr), .ref told]], [ia ty cod 60 cd]])) () hx hb hr hlocks hP hD hS (by rw [hv1]; rfl) (Nat.le_of_ble_eq_true rfl) (Nat.le_of_ble_eq_true rfl) dX8_readNumber_36
                            · have hd9 := hd_10
                              refine W.eq (g2 := F0 m 14 ls [.int (-99999999)]) (by rw [if_neg hd_10]) ?_
                              refine lv_istore (lv' := [(5, .int (-99999999)), (4, .int 1), (3, .int (nI (0 + digN cd pos * 1000 + (digN cd (pos + 1) * 100) + (digN cd (pos + 1 + 1) * 10)))), (0, .ref h), (1, .int 1000), (2, .int (nI hi9))]) hx hb dX8_readNumber_14 hl (by decide) rfl (fun ls hl => ?_)
                              refine lv_iload hx hb dX8_readNumber_16 (lv_at hl 0 rfl) ?_
                              refine lv_ldc hx hb hown (hts (Cond.constant RX8 41 (-99999999)) (List.mem_of_getElem? (i := 1) rfl)) dX8_readNumber_18 ?_
                              refine lv_icmp_eq (tgt := 34) hx hb dX8_readNumber_20 (by decide) (fun c_26 => ?_) (fun c_26 => ?_)
                              · skip
                                refine lv_ldc hx hb hown (hts (Cond.constant RX8 41 (-99999999)) (List.mem_of_getElem? (i := 1) rfl)) dX8_readNumber_34 ?_
                                have hz7_0 := nle_of (a := 1000) (b := 0) (by omega) (by omega) c_1
                                have hz31_2 := (nI_leI (a := 0 + digN cd pos * 1000) (b := hi9) (by omega) (by omega)).mp c_6
                                have hz7_3 := nle_of (a := 100) (b := 0) (by omega) (by omega) c_7
                                have hz31_5 := (nI_leI (a := 0 + digN cd pos * 1000 + (digN cd (pos + 1) * 100)) (b := hi9) (by omega) (by omega)).mp c_12
                                have hz7_6 := nle_of (a := 10) (b := 0) (by omega) (by omega) c_13
                                have hz31_8 := (nI_leI (a := 0 + digN cd pos * 1000 + (digN cd (pos + 1) * 100) + (digN cd (pos + 1 + 1) * 10)) (b := hi9) (by omega) (by omega)).mp c_18
                                have hz7_9 := nle_of (a := 1) (b := 0) (by omega) (by omega) c_19
                                have hv1 : numV cd ln [1000, 100, 10, 1] hi9 0 pos = _ := (numV_y ⟨hd_1, by omega⟩).1.trans ((numV_y ⟨hd_4, by omega⟩).1.trans ((numV_y ⟨hd_7, by omega⟩).1.trans ((numV_n (fun q => by first | exact hd_10 q.1 | omega)).1)))
                                have hv2 : numP cd ln [1000, 100, 10, 1] hi9 0 pos = _ := (numV_y ⟨hd_1, by omega⟩).2.trans ((numV_y ⟨hd_4, by omega⟩).2.trans ((numV_y ⟨hd_7, by omega⟩).2.trans ((numV_n (fun q => by first | exact hd_10 q.1 | omega)).2)))
                                have hP : va_P D vwCl (fl [[ob h 7 [.ref cod, .int (nI ln), .int (nI (numP cd ln [1000, 100, 10, 1] hi9 0 pos)), .int (nI na), .int (nI np), .int (nI nr), .ref told]], [ia ty cod 60 cd]]) H := by rw [hv2]; exact hP
                                have hD : va_D A (fl [[ob h 7 [.ref cod, .int (nI ln), .int (nI (numP cd ln [1000, 100, 10, 1] hi9 0 pos)), .int (nI na), .int (nI np), .int (nI nr), .ref told]], [ia ty cod 60 cd]]) := (D_same2 hD [h, cod] rfl rfl)
                                exact end_i (bs' := (fun (_ : Unit) => [[ob h 7 [.ref cod, .int (nI ln), .int (nI (numP cd ln [1000, 100, 10, 1] hi9 0 pos)), .int (nI na), .int (nI np), .int (nI nr), .ref told]], [ia ty cod 60 cd]])) () hx hb hr hlocks hP hD hS (by rw [hv1]; rfl) (Nat.le_of_ble_eq_true rfl) (Nat.le_of_ble_eq_true rfl) dX8_readNumber_36
                              · exact absurd (by decide) c_26
                        · skip
                          refine lv_ldc hx hb hown (hts (Cond.constant RX8 41 (-99999999)) (List.mem_of_getElem? (i := 1) rfl)) dX8_readNumber_34 ?_
                          have hz7_0 := nle_of (a := 1000) (b := 0) (by omega) (by omega) c_1
                          have hz31_2 := (nI_leI (a := 0 + digN cd pos * 1000) (b := hi9) (by omega) (by omega)).mp c_6
                          have hz7_3 := nle_of (a := 100) (b := 0) (by omega) (by omega) c_7
                          have hz31_5 := (nI_leI (a := 0 + digN cd pos * 1000 + (digN cd (pos + 1) * 100)) (b := hi9) (by omega) (by omega)).mp c_12
                          have hz7_6 := nle_of (a := 10) (b := 0) (by omega) (by omega) c_13
                          have hz31_8 := nle_of (a := 0 + digN cd pos * 1000 + (digN cd (pos + 1) * 100) + (digN cd (pos + 1 + 1) * 10)) (b := hi9) (by omega) (by omega) c_18
                          have hv1 : numV cd ln [1000, 100, 10, 1] hi9 0 pos = _ := (numV_y ⟨hd_1, by omega⟩).1.trans ((numV_y ⟨hd_4, by omega⟩).1.trans ((numV_n (fun q => by first | exact hd_7 q.1 | omega)).1))
                          have hv2 : numP cd ln [1000, 100, 10, 1] hi9 0 pos = _ := (numV_y ⟨hd_1, by omega⟩).2.trans ((numV_y ⟨hd_4, by omega⟩).2.trans ((numV_n (fun q => by first | exact hd_7 q.1 | omega)).2))
                          have hP : va_P D vwCl (fl [[ob h 7 [.ref cod, .int (nI ln), .int (nI (numP cd ln [1000, 100, 10, 1] hi9 0 pos)), .int (nI na), .int (nI np), .int (nI nr), .ref told]], [ia ty cod 60 cd]]) H := by rw [hv2]; exact hP
                          have hD : va_D A (fl [[ob h 7 [.ref cod, .int (nI ln), .int (nI (numP cd ln [1000, 100, 10, 1] hi9 0 pos)), .int (nI na), .int (nI np), .int (nI nr), .ref told]], [ia ty cod 60 cd]]) := (D_same2 hD [h, cod] rfl rfl)
                          exact end_i (bs' := (fun (_ : Unit) => [[ob h 7 [.ref cod, .int (nI ln), .int (nI (numP cd ln [1000, 100, 10, 1] hi9 0 pos)), .int (nI na), .int (nI np), .int (nI nr), .ref told]], [ia ty cod 60 cd]])) () hx hb hr hlocks hP hD hS (by rw [hv1]; rfl) (Nat.le_of_ble_eq_true rfl) (Nat.le_of_ble_eq_true rfl) dX8_readNumber_36
                    · have hd9 := hd_7
                      refine W.eq (g2 := F0 m 14 ls [.int (-99999999)]) (by rw [if_neg hd_7]) ?_
                      refine lv_istore (lv' := [(5, .int (-99999999)), (4, .int 10), (3, .int (nI (0 + digN cd pos * 1000 + (digN cd (pos + 1) * 100)))), (0, .ref h), (1, .int 1000), (2, .int (nI hi9))]) hx hb dX8_readNumber_14 hl (by decide) rfl (fun ls hl => ?_)
                      refine lv_iload hx hb dX8_readNumber_16 (lv_at hl 0 rfl) ?_
                      refine lv_ldc hx hb hown (hts (Cond.constant RX8 41 (-99999999)) (List.mem_of_getElem? (i := 1) rfl)) dX8_readNumber_18 ?_
                      refine lv_icmp_eq (tgt := 34) hx hb dX8_readNumber_20 (by decide) (fun c_27 => ?_) (fun c_27 => ?_)
                      · skip
                        refine lv_ldc hx hb hown (hts (Cond.constant RX8 41 (-99999999)) (List.mem_of_getElem? (i := 1) rfl)) dX8_readNumber_34 ?_
                        have hz7_0 := nle_of (a := 1000) (b := 0) (by omega) (by omega) c_1
                        have hz31_2 := (nI_leI (a := 0 + digN cd pos * 1000) (b := hi9) (by omega) (by omega)).mp c_6
                        have hz7_3 := nle_of (a := 100) (b := 0) (by omega) (by omega) c_7
                        have hz31_5 := (nI_leI (a := 0 + digN cd pos * 1000 + (digN cd (pos + 1) * 100)) (b := hi9) (by omega) (by omega)).mp c_12
                        have hz7_6 := nle_of (a := 10) (b := 0) (by omega) (by omega) c_13
                        have hv1 : numV cd ln [1000, 100, 10, 1] hi9 0 pos = _ := (numV_y ⟨hd_1, by omega⟩).1.trans ((numV_y ⟨hd_4, by omega⟩).1.trans ((numV_n (fun q => by first | exact hd_7 q.1 | omega)).1))
                        have hv2 : numP cd ln [1000, 100, 10, 1] hi9 0 pos = _ := (numV_y ⟨hd_1, by omega⟩).2.trans ((numV_y ⟨hd_4, by omega⟩).2.trans ((numV_n (fun q => by first | exact hd_7 q.1 | omega)).2))
                        have hP : va_P D vwCl (fl [[ob h 7 [.ref cod, .int (nI ln), .int (nI (numP cd ln [1000, 100, 10, 1] hi9 0 pos)), .int (nI na), .int (nI np), .int (nI nr), .ref told]], [ia ty cod 60 cd]]) H := by rw [hv2]; exact hP
                        have hD : va_D A (fl [[ob h 7 [.ref cod, .int (nI ln), .int (nI (numP cd ln [1000, 100, 10, 1] hi9 0 pos)), .int (nI na), .int (nI np), .int (nI nr), .ref told]], [ia ty cod 60 cd]]) := (D_same2 hD [h, cod] rfl rfl)
                        exact end_i (bs' := (fun (_ : Unit) => [[ob h 7 [.ref cod, .int (nI ln), .int (nI (numP cd ln [1000, 100, 10, 1] hi9 0 pos)), .int (nI na), .int (nI np), .int (nI nr), .ref told]], [ia ty cod 60 cd]])) () hx hb hr hlocks hP hD hS (by rw [hv1]; rfl) (Nat.le_of_ble_eq_true rfl) (Nat.le_of_ble_eq_true rfl) dX8_readNumber_36
                      · exact absurd (by decide) c_27
                · skip
                  refine lv_ldc hx hb hown (hts (Cond.constant RX8 41 (-99999999)) (List.mem_of_getElem? (i := 1) rfl)) dX8_readNumber_34 ?_
                  have hz7_0 := nle_of (a := 1000) (b := 0) (by omega) (by omega) c_1
                  have hz31_2 := (nI_leI (a := 0 + digN cd pos * 1000) (b := hi9) (by omega) (by omega)).mp c_6
                  have hz7_3 := nle_of (a := 100) (b := 0) (by omega) (by omega) c_7
                  have hz31_5 := nle_of (a := 0 + digN cd pos * 1000 + (digN cd (pos + 1) * 100)) (b := hi9) (by omega) (by omega) c_12
                  have hv1 : numV cd ln [1000, 100, 10, 1] hi9 0 pos = _ := (numV_y ⟨hd_1, by omega⟩).1.trans ((numV_n (fun q => by first | exact hd_4 q.1 | omega)).1)
                  have hv2 : numP cd ln [1000, 100, 10, 1] hi9 0 pos = _ := (numV_y ⟨hd_1, by omega⟩).2.trans ((numV_n (fun q => by first | exact hd_4 q.1 | omega)).2)
                  have hP : va_P D vwCl (fl [[ob h 7 [.ref cod, .int (nI ln), .int (nI (numP cd ln [1000, 100, 10, 1] hi9 0 pos)), .int (nI na), .int (nI np), .int (nI nr), .ref told]], [ia ty cod 60 cd]]) H := by rw [hv2]; exact hP
                  have hD : va_D A (fl [[ob h 7 [.ref cod, .int (nI ln), .int (nI (numP cd ln [1000, 100, 10, 1] hi9 0 pos)), .int (nI na), .int (nI np), .int (nI nr), .ref told]], [ia ty cod 60 cd]]) := (D_same2 hD [h, cod] rfl rfl)
                  exact end_i (bs' := (fun (_ : Unit) => [[ob h 7 [.ref cod, .int (nI ln), .int (nI (numP cd ln [1000, 100, 10, 1] hi9 0 pos)), .int (nI na), .int (nI np), .int (nI nr), .ref told]], [ia ty cod 60 cd]])) () hx hb hr hlocks hP hD hS (by rw [hv1]; rfl) (Nat.le_of_ble_eq_true rfl) (Nat.le_of_ble_eq_true rfl) dX8_readNumber_36
            · have hd9 := hd_4
              refine W.eq (g2 := F0 m 14 ls [.int (-99999999)]) (by rw [if_neg hd_4]) ?_
              refine lv_istore (lv' := [(5, .int (-99999999)), (4, .int 100), (3, .int (nI (0 + digN cd pos * 1000))), (0, .ref h), (1, .int 1000), (2, .int (nI hi9))]) hx hb dX8_readNumber_14 hl (by decide) rfl (fun ls hl => ?_)
              refine lv_iload hx hb dX8_readNumber_16 (lv_at hl 0 rfl) ?_
              refine lv_ldc hx hb hown (hts (Cond.constant RX8 41 (-99999999)) (List.mem_of_getElem? (i := 1) rfl)) dX8_readNumber_18 ?_
              refine lv_icmp_eq (tgt := 34) hx hb dX8_readNumber_20 (by decide) (fun c_28 => ?_) (fun c_28 => ?_)
              · skip
                refine lv_ldc hx hb hown (hts (Cond.constant RX8 41 (-99999999)) (List.mem_of_getElem? (i := 1) rfl)) dX8_readNumber_34 ?_
                have hz7_0 := nle_of (a := 1000) (b := 0) (by omega) (by omega) c_1
                have hz31_2 := (nI_leI (a := 0 + digN cd pos * 1000) (b := hi9) (by omega) (by omega)).mp c_6
                have hz7_3 := nle_of (a := 100) (b := 0) (by omega) (by omega) c_7
                have hv1 : numV cd ln [1000, 100, 10, 1] hi9 0 pos = _ := (numV_y ⟨hd_1, by omega⟩).1.trans ((numV_n (fun q => by first | exact hd_4 q.1 | omega)).1)
                have hv2 : numP cd ln [1000, 100, 10, 1] hi9 0 pos = _ := (numV_y ⟨hd_1, by omega⟩).2.trans ((numV_n (fun q => by first | exact hd_4 q.1 | omega)).2)
                have hP : va_P D vwCl (fl [[ob h 7 [.ref cod, .int (nI ln), .int (nI (numP cd ln [1000, 100, 10, 1] hi9 0 pos)), .int (nI na), .int (nI np), .int (nI nr), .ref told]], [ia ty cod 60 cd]]) H := by rw [hv2]; exact hP
                have hD : va_D A (fl [[ob h 7 [.ref cod, .int (nI ln), .int (nI (numP cd ln [1000, 100, 10, 1] hi9 0 pos)), .int (nI na), .int (nI np), .int (nI nr), .ref told]], [ia ty cod 60 cd]]) := (D_same2 hD [h, cod] rfl rfl)
                exact end_i (bs' := (fun (_ : Unit) => [[ob h 7 [.ref cod, .int (nI ln), .int (nI (numP cd ln [1000, 100, 10, 1] hi9 0 pos)), .int (nI na), .int (nI np), .int (nI nr), .ref told]], [ia ty cod 60 cd]])) () hx hb hr hlocks hP hD hS (by rw [hv1]; rfl) (Nat.le_of_ble_eq_true rfl) (Nat.le_of_ble_eq_true rfl) dX8_readNumber_36
              · exact absurd (by decide) c_28
        · skip
          refine lv_ldc hx hb hown (hts (Cond.constant RX8 41 (-99999999)) (List.mem_of_getElem? (i := 1) rfl)) dX8_readNumber_34 ?_
          have hz7_0 := nle_of (a := 1000) (b := 0) (by omega) (by omega) c_1
          have hz31_2 := nle_of (a := 0 + digN cd pos * 1000) (b := hi9) (by omega) (by omega) c_6
          have hv1 : numV cd ln [1000, 100, 10, 1] hi9 0 pos = _ := (numV_n (fun q => by first | exact hd_1 q.1 | omega)).1
          have hv2 : numP cd ln [1000, 100, 10, 1] hi9 0 pos = _ := (numV_n (fun q => by first | exact hd_1 q.1 | omega)).2
          have hP : va_P D vwCl (fl [[ob h 7 [.ref cod, .int (nI ln), .int (nI (numP cd ln [1000, 100, 10, 1] hi9 0 pos)), .int (nI na), .int (nI np), .int (nI nr), .ref told]], [ia ty cod 60 cd]]) H := by rw [hv2]; exact hP
          have hD : va_D A (fl [[ob h 7 [.ref cod, .int (nI ln), .int (nI (numP cd ln [1000, 100, 10, 1] hi9 0 pos)), .int (nI na), .int (nI np), .int (nI nr), .ref told]], [ia ty cod 60 cd]]) := (D_same2 hD [h, cod] rfl rfl)
          exact end_i (bs' := (fun (_ : Unit) => [[ob h 7 [.ref cod, .int (nI ln), .int (nI (numP cd ln [1000, 100, 10, 1] hi9 0 pos)), .int (nI na), .int (nI np), .int (nI nr), .ref told]], [ia ty cod 60 cd]])) () hx hb hr hlocks hP hD hS (by rw [hv1]; rfl) (Nat.le_of_ble_eq_true rfl) (Nat.le_of_ble_eq_true rfl) dX8_readNumber_36
    · have hd9 := hd_1
      refine W.eq (g2 := F0 m 14 ls [.int (-99999999)]) (by rw [if_neg hd_1]) ?_
      refine lv_istore (lv' := [(5, .int (-99999999)), (4, .int 1000), (3, .int 0), (0, .ref h), (1, .int 1000), (2, .int (nI hi9))]) hx hb dX8_readNumber_14 hl (by decide) rfl (fun ls hl => ?_)
      refine lv_iload hx hb dX8_readNumber_16 (lv_at hl 0 rfl) ?_
      refine lv_ldc hx hb hown (hts (Cond.constant RX8 41 (-99999999)) (List.mem_of_getElem? (i := 1) rfl)) dX8_readNumber_18 ?_
      refine lv_icmp_eq (tgt := 34) hx hb dX8_readNumber_20 (by decide) (fun c_29 => ?_) (fun c_29 => ?_)
      · skip
        refine lv_ldc hx hb hown (hts (Cond.constant RX8 41 (-99999999)) (List.mem_of_getElem? (i := 1) rfl)) dX8_readNumber_34 ?_
        have hz7_0 := nle_of (a := 1000) (b := 0) (by omega) (by omega) c_1
        have hv1 : numV cd ln [1000, 100, 10, 1] hi9 0 pos = _ := (numV_n (fun q => by first | exact hd_1 q.1 | omega)).1
        have hv2 : numP cd ln [1000, 100, 10, 1] hi9 0 pos = _ := (numV_n (fun q => by first | exact hd_1 q.1 | omega)).2
        have hP : va_P D vwCl (fl [[ob h 7 [.ref cod, .int (nI ln), .int (nI (numP cd ln [1000, 100, 10, 1] hi9 0 pos)), .int (nI na), .int (nI np), .int (nI nr), .ref told]], [ia ty cod 60 cd]]) H := by rw [hv2]; exact hP
        have hD : va_D A (fl [[ob h 7 [.ref cod, .int (nI ln), .int (nI (numP cd ln [1000, 100, 10, 1] hi9 0 pos)), .int (nI na), .int (nI np), .int (nI nr), .ref told]], [ia ty cod 60 cd]]) := (D_same2 hD [h, cod] rfl rfl)
        exact end_i (bs' := (fun (_ : Unit) => [[ob h 7 [.ref cod, .int (nI ln), .int (nI (numP cd ln [1000, 100, 10, 1] hi9 0 pos)), .int (nI na), .int (nI np), .int (nI nr), .ref told]], [ia ty cod 60 cd]])) () hx hb hr hlocks hP hD hS (by rw [hv1]; rfl) (Nat.le_of_ble_eq_true rfl) (Nat.le_of_ble_eq_true rfl) dX8_readNumber_36
      · exact absurd (by decide) c_29
