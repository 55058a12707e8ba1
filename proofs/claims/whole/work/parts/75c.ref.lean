set_option maxHeartbeats 4000000 in
set_option maxRecDepth 100000 in
theorem c_X10_readAlarm (l : Launch) (D : va_G) (ty : Nat → ClassId) (b : Nat → Nat) (rf ac : Int32) (ln pos : Nat) (cd : Nat → Int32) (na : Nat) (r : Nat → Int32) (hl6 : ln ≤ 60) (hp6 : pos < 900) (hna : na < 4) : CTi l yX10_readAlarm wsX10_readAlarm ({ frames := 2, cells := 0, slots := 0, locals := 50 }) D ty [.ref (b 0), .int (nI na)] [[ob (b 0) 9 [.int rf, .ref (b 1), .int (nI ln), .int (nI pos), .ref (b 2), .ref (b 3), .ref (b 4), .ref (b 5), .int ac, .ref (b 6), .ref (b 7), .ref (b 8), .ref (b 9), .ref (b 10), .ref (b 11)]], [ia ty (b 1) 60 cd], [ia ty (b 2) 57 r]] (fun (RET : Int32) (_ : Unit) => RET = (someB (alarmV cd ln pos))) (fun (_ : Unit) => [[ob (b 0) 9 [.int rf, .ref (b 1), .int (nI ln), .int (nI (alarmP cd ln pos)), .ref (b 2), .ref (b 3), .ref (b 4), .ref (b 5), .int ac, .ref (b 6), .ref (b 7), .ref (b 8), .ref (b 9), .ref (b 10), .ref (b 11)]], [ia ty (b 1) 60 cd], [ia ty (b 2) 57 (upd r (27 + 3 * na) (onV (alarmV cd ln pos)))]]) := by
  refine CTi_of cX10_readAlarm 4 (some .boolean) (by decide) rfl (Nat.le_of_ble_eq_true rfl) ?_
  intro p e s m args below meth c A hx hb hr hml hown hlocks hin hts hA hX hK hP hD ls hl
  have hown : s.vm.findClass RX10 = some m.cls := hown
  have hS : va_S A s.heap s.heap [] := va_S.rf
  have i_X10 : ∀ z ∈ wsX100, z ∈ wsX10_readAlarm := fun z h => List.mem_cons_of_mem _ (List.mem_append_right _ h)
  have hl : lv_has ls 4 [(0, .ref (b 0)), (1, .int (nI na))] := hl
  refine lv_aload_n hx hb dX10_readAlarm_0 rfl (lv_at hl 0 rfl) ?_
  refine lv_iconst (v := 2) hx hb dX10_readAlarm_1 (by decide) ?_
  refine lv_bipush (v := 23) hx hb dX10_readAlarm_2 (by decide) ?_
  refine cVi (As := [.int 2, .int 23]) (rest := []) ⟨hx, hb, hml, hown, hts⟩ (c_X10_number2 l D ty b rf ac ln pos cd 23 (hl6) ((by omega)) (by omega)) (cwV 2 hts gX10_readAlarm_X10_number rfl rfl rfl (by decide +kernel) ⟨Nat.le_of_ble_eq_true rfl, Nat.le_of_ble_eq_true rfl⟩) hK hX hP hD hS hA (pk (bs := [[ob (b 0) 9 [.int rf, .ref (b 1), .int (nI ln), .int (nI pos), .ref (b 2), .ref (b 3), .ref (b 4), .ref (b 5), .int ac, .ref (b 6), .ref (b 7), .ref (b 8), .ref (b 9), .ref (b 10), .ref (b 11)]], [ia ty (b 1) 60 cd], [ia ty (b 2) 57 r]]) (bsc := [[ob (b 0) 9 [.int rf, .ref (b 1), .int (nI ln), .int (nI pos), .ref (b 2), .ref (b 3), .ref (b 4), .ref (b 5), .int ac, .ref (b 6), .ref (b 7), .ref (b 8), .ref (b 9), .ref (b 10), .ref (b 11)]], [ia ty (b 1) 60 cd]]) (bsr := [[ia ty (b 2) 57 r]]) [0, 1] [2] 3 rfl (by decide +kernel) rfl rfl) (ci := 9) rfl 0 rfl rfl hl.1 rfl (Nat.le_of_ble_eq_true rfl) dX10_readAlarm_4 ⟨Nat.le_of_ble_eq_true rfl, Nat.le_of_ble_eq_true rfl⟩ (fun r_2 u_1 h_3 H locs hP hD hS => ?_)
  have h_3 : r_2 = (onV (numV cd ln [10, 1] 23 0 pos)) := h_3
  subst h_3
  have hP : va_P D vwCl (fl [[ob (b 0) 9 [.int rf, .ref (b 1), .int (nI ln), .int (nI (numP cd ln [10, 1] 23 0 pos)), .ref (b 2), .ref (b 3), .ref (b 4), .ref (b 5), .int ac, .ref (b 6), .ref (b 7), .ref (b 8), .ref (b 9), .ref (b 10), .ref (b 11)]], [ia ty (b 1) 60 cd], [ia ty (b 2) 57 r]]) H := P_perm (po (bs := [[ob (b 0) 9 [.int rf, .ref (b 1), .int (nI ln), .int (nI (numP cd ln [10, 1] 23 0 pos)), .ref (b 2), .ref (b 3), .ref (b 4), .ref (b 5), .int ac, .ref (b 6), .ref (b 7), .ref (b 8), .ref (b 9), .ref (b 10), .ref (b 11)]], [ia ty (b 1) 60 cd], [ia ty (b 2) 57 r]]) [0, 1, 2] 3 rfl (by decide +kernel) rfl) hP
  have hD : va_D A (fl [[ob (b 0) 9 [.int rf, .ref (b 1), .int (nI ln), .int (nI (numP cd ln [10, 1] 23 0 pos)), .ref (b 2), .ref (b 3), .ref (b 4), .ref (b 5), .int ac, .ref (b 6), .ref (b 7), .ref (b 8), .ref (b 9), .ref (b 10), .ref (b 11)]], [ia ty (b 1) 60 cd], [ia ty (b 2) 57 r]]) := D_perm (po (bs := [[ob (b 0) 9 [.int rf, .ref (b 1), .int (nI ln), .int (nI (numP cd ln [10, 1] 23 0 pos)), .ref (b 2), .ref (b 3), .ref (b 4), .ref (b 5), .int ac, .ref (b 6), .ref (b 7), .ref (b 8), .ref (b 9), .ref (b 10), .ref (b 11)]], [ia ty (b 1) 60 cd], [ia ty (b 2) 57 r]]) [0, 1, 2] 3 rfl (by decide +kernel) rfl) hD
  rcases opt_or (numV cd ln [10, 1] 23 0 pos) with hq0 | ⟨n0, hq0⟩
  · have hle0 := hq0
    refine W.eq (g2 := F0 m 7 ls [.int (-99999999)]) (by rw [hq0]; rfl) ?_
    refine lv_istore_n (lv' := [(2, .int (-99999999)), (0, .ref (b 0)), (1, .int (nI na))]) hx hb dX10_readAlarm_7 rfl hl (by decide) rfl (fun ls hl => ?_)
    refine lv_iload_n hx hb dX10_readAlarm_8 rfl (lv_at hl 0 rfl) ?_
    refine lv_ldc hx hb hown (hts (Cond.constant RX10 53 (-99999999)) (List.mem_of_getElem? (i := 1) rfl)) dX10_readAlarm_9 ?_
    refine lv_icmp_ne (tgt := 19) hx hb dX10_readAlarm_11 (by decide) (fun c_4 => ?_) (fun c_4 => ?_)
    · first | exact absurd c_4 (by decide) | exact absurd (by decide) c_4
    · skip
      refine lv_ldc hx hb hown (hts (Cond.constant RX10 53 (-99999999)) (List.mem_of_getElem? (i := 1) rfl)) dX10_readAlarm_14 ?_
      refine lv_goto (tgt := 26) hx hb dX10_readAlarm_16 (by decide) ?_
      refine lv_istore_n (lv' := [(3, .int (-99999999)), (2, .int (-99999999)), (0, .ref (b 0)), (1, .int (nI na))]) hx hb dX10_readAlarm_26 rfl hl (by decide) rfl (fun ls hl => ?_)
      refine lv_aload_n hx hb dX10_readAlarm_27 rfl (lv_at hl 2 rfl) ?_
      refine va_get (D := D) (ci := 9) (v := .ref (b 2)) (C := RX10) (T := TX10) (N := 15) hx hb hts i_X10 hown hK hP 0 rfl rfl 4 (by decide) (hts (Cond.fieldLink RX10 13 "BrownClockModel" "read" "[I") (List.mem_of_getElem? (i := 2) rfl)) (fun _ h9 => h9) rfl dX10_readAlarm_28 ?_
      refine lv_bipush (v := 27) hx hb dX10_readAlarm_31 (by decide) ?_
      refine lv_iconst (v := 3) hx hb dX10_readAlarm_33 (by decide) ?_
      refine lv_iload_n hx hb dX10_readAlarm_34 rfl (lv_at hl 3 rfl) ?_
      refine k_imul (v := (nI (3 * na))) hx hb dX10_readAlarm_35 (nI_mul (3) (na)) ?_
      refine k_iadd (v := (nI (27 + 3 * na))) hx hb dX10_readAlarm_36 (nI_add (27) (3 * na)) ?_
      refine lv_iload_n hx hb dX10_readAlarm_37 rfl (lv_at hl 0 rfl) ?_
      refine lv_ldc hx hb hown (hts (Cond.constant RX10 53 (-99999999)) (List.mem_of_getElem? (i := 1) rfl)) dX10_readAlarm_38 ?_
      refine lv_icmp_ne (tgt := 48) hx hb dX10_readAlarm_40 (by decide) (fun c_5 => ?_) (fun c_5 => ?_)
      · first | exact absurd c_5 (by decide) | exact absurd (by decide) c_5
      · skip
        refine lv_ldc hx hb hown (hts (Cond.constant RX10 53 (-99999999)) (List.mem_of_getElem? (i := 1) rfl)) dX10_readAlarm_43 ?_
        refine lv_goto (tgt := 54) hx hb dX10_readAlarm_45 (by decide) ?_
        refine k_iast hx hb hK hP hD hS 2 rfl (27 + 3 * na) rfl (by omega) (Nat.le_of_ble_eq_true rfl) dX10_readAlarm_54 (fun H locs hP hD hS => ?_)
        have hP : va_P D vwCl (fl [[ob (b 0) 9 [.int rf, .ref (b 1), .int (nI ln), .int (nI (numP cd ln [10, 1] 23 0 pos)), .ref (b 2), .ref (b 3), .ref (b 4), .ref (b 5), .int ac, .ref (b 6), .ref (b 7), .ref (b 8), .ref (b 9), .ref (b 10), .ref (b 11)]], [ia ty (b 1) 60 cd], [ia ty (b 2) 57 (upd r (27 + 3 * na) (-99999999))]]) H := hP
        have hD : va_D A (fl [[ob (b 0) 9 [.int rf, .ref (b 1), .int (nI ln), .int (nI (numP cd ln [10, 1] 23 0 pos)), .ref (b 2), .ref (b 3), .ref (b 4), .ref (b 5), .int ac, .ref (b 6), .ref (b 7), .ref (b 8), .ref (b 9), .ref (b 10), .ref (b 11)]], [ia ty (b 1) 60 cd], [ia ty (b 2) 57 (upd r (27 + 3 * na) (-99999999))]]) := hD
        refine lv_iload_n hx hb dX10_readAlarm_55 rfl (lv_at hl 0 rfl) ?_
        refine lv_ldc hx hb hown (hts (Cond.constant RX10 53 (-99999999)) (List.mem_of_getElem? (i := 1) rfl)) dX10_readAlarm_56 ?_
        refine lv_icmp_eq (tgt := 65) hx hb dX10_readAlarm_58 (by decide) (fun c_6 => ?_) (fun c_6 => ?_)
        · skip
          refine lv_iconst (v := 0) hx hb dX10_readAlarm_65 (by decide) ?_
          have hP1 : alarmP cd ln pos = numP cd ln [10, 1] 23 0 pos := by unfold alarmP; simp only [hq0]
          have hV1 : alarmV cd ln pos = none := by unfold alarmV; simp only [hq0]
          have hP : va_P D vwCl (fl [[ob (b 0) 9 [.int rf, .ref (b 1), .int (nI ln), .int (nI (alarmP cd ln pos)), .ref (b 2), .ref (b 3), .ref (b 4), .ref (b 5), .int ac, .ref (b 6), .ref (b 7), .ref (b 8), .ref (b 9), .ref (b 10), .ref (b 11)]], [ia ty (b 1) 60 cd], [ia ty (b 2) 57 (upd r (27 + 3 * na) (onV (alarmV cd ln pos)))]]) H := by rw [hP1, hV1]; exact hP
          have hD : va_D A (fl [[ob (b 0) 9 [.int rf, .ref (b 1), .int (nI ln), .int (nI (alarmP cd ln pos)), .ref (b 2), .ref (b 3), .ref (b 4), .ref (b 5), .int ac, .ref (b 6), .ref (b 7), .ref (b 8), .ref (b 9), .ref (b 10), .ref (b 11)]], [ia ty (b 1) 60 cd], [ia ty (b 2) 57 (upd r (27 + 3 * na) (onV (alarmV cd ln pos)))]]) := (D_same2 hD [(b 0), (b 1), (b 2)] rfl rfl)
          exact end_z (bs' := (fun (_ : Unit) => [[ob (b 0) 9 [.int rf, .ref (b 1), .int (nI ln), .int (nI (alarmP cd ln pos)), .ref (b 2), .ref (b 3), .ref (b 4), .ref (b 5), .int ac, .ref (b 6), .ref (b 7), .ref (b 8), .ref (b 9), .ref (b 10), .ref (b 11)]], [ia ty (b 1) 60 cd], [ia ty (b 2) 57 (upd r (27 + 3 * na) (onV (alarmV cd ln pos)))]])) () hx hb hr hlocks rfl hP hD hS (by rw [hV1]; rfl) (Nat.le_of_ble_eq_true rfl) (Nat.le_of_ble_eq_true rfl) dX10_readAlarm_66
        · exact absurd (by decide) c_6
  · have hle0 := numV_le hq0 (Nat.zero_le _)
    refine W.eq (g2 := F0 m 7 ls [.int (nI n0)]) (by rw [hq0]; rfl) ?_
    refine lv_istore_n (lv' := [(2, .int (nI n0)), (0, .ref (b 0)), (1, .int (nI na))]) hx hb dX10_readAlarm_7 rfl hl (by decide) rfl (fun ls hl => ?_)
    refine lv_iload_n hx hb dX10_readAlarm_8 rfl (lv_at hl 0 rfl) ?_
    refine lv_ldc hx hb hown (hts (Cond.constant RX10 53 (-99999999)) (List.mem_of_getElem? (i := 1) rfl)) dX10_readAlarm_9 ?_
    refine lv_icmp_ne (tgt := 19) hx hb dX10_readAlarm_11 (by decide) (fun c_7 => ?_) (fun c_7 => ?_)
    · skip
      refine lv_aload_n hx hb dX10_readAlarm_19 rfl (lv_at hl 1 rfl) ?_
      refine lv_iconst (v := 2) hx hb dX10_readAlarm_20 (by decide) ?_
      refine lv_bipush (v := 59) hx hb dX10_readAlarm_21 (by decide) ?_
      refine cVi (As := [.int 2, .int 59]) (rest := []) ⟨hx, hb, hml, hown, hts⟩ (c_X10_number2 l D ty b rf ac ln (numP cd ln [10, 1] 23 0 pos) cd 59 (hl6) ((by have q1 := numP_in (cd := cd) (ln := ln) (us := [10, 1]) (hi := 23) (acc := 0) (pos := pos); simp only [List.length_cons, List.length_nil] at q1; omega)) (by omega)) (cwV 2 hts gX10_readAlarm_X10_number rfl rfl rfl (by decide +kernel) ⟨Nat.le_of_ble_eq_true rfl, Nat.le_of_ble_eq_true rfl⟩) hK hX hP hD hS hA (pk (bs := [[ob (b 0) 9 [.int rf, .ref (b 1), .int (nI ln), .int (nI (numP cd ln [10, 1] 23 0 pos)), .ref (b 2), .ref (b 3), .ref (b 4), .ref (b 5), .int ac, .ref (b 6), .ref (b 7), .ref (b 8), .ref (b 9), .ref (b 10), .ref (b 11)]], [ia ty (b 1) 60 cd], [ia ty (b 2) 57 r]]) (bsc := [[ob (b 0) 9 [.int rf, .ref (b 1), .int (nI ln), .int (nI (numP cd ln [10, 1] 23 0 pos)), .ref (b 2), .ref (b 3), .ref (b 4), .ref (b 5), .int ac, .ref (b 6), .ref (b 7), .ref (b 8), .ref (b 9), .ref (b 10), .ref (b 11)]], [ia ty (b 1) 60 cd]]) (bsr := [[ia ty (b 2) 57 r]]) [0, 1] [2] 3 rfl (by decide +kernel) rfl rfl) (ci := 9) rfl 0 rfl rfl hl.1 rfl (Nat.le_of_ble_eq_true rfl) dX10_readAlarm_23 ⟨Nat.le_of_ble_eq_true rfl, Nat.le_of_ble_eq_true rfl⟩ (fun r_9 u_8 h_10 H locs hP hD hS => ?_)
      have h_10 : r_9 = (onV (numV cd ln [10, 1] 59 0 (numP cd ln [10, 1] 23 0 pos))) := h_10
      subst h_10
      have hP : va_P D vwCl (fl [[ob (b 0) 9 [.int rf, .ref (b 1), .int (nI ln), .int (nI (numP cd ln [10, 1] 59 0 (numP cd ln [10, 1] 23 0 pos))), .ref (b 2), .ref (b 3), .ref (b 4), .ref (b 5), .int ac, .ref (b 6), .ref (b 7), .ref (b 8), .ref (b 9), .ref (b 10), .ref (b 11)]], [ia ty (b 1) 60 cd], [ia ty (b 2) 57 r]]) H := P_perm (po (bs := [[ob (b 0) 9 [.int rf, .ref (b 1), .int (nI ln), .int (nI (numP cd ln [10, 1] 59 0 (numP cd ln [10, 1] 23 0 pos))), .ref (b 2), .ref (b 3), .ref (b 4), .ref (b 5), .int ac, .ref (b 6), .ref (b 7), .ref (b 8), .ref (b 9), .ref (b 10), .ref (b 11)]], [ia ty (b 1) 60 cd], [ia ty (b 2) 57 r]]) [0, 1, 2] 3 rfl (by decide +kernel) rfl) hP
      have hD : va_D A (fl [[ob (b 0) 9 [.int rf, .ref (b 1), .int (nI ln), .int (nI (numP cd ln [10, 1] 59 0 (numP cd ln [10, 1] 23 0 pos))), .ref (b 2), .ref (b 3), .ref (b 4), .ref (b 5), .int ac, .ref (b 6), .ref (b 7), .ref (b 8), .ref (b 9), .ref (b 10), .ref (b 11)]], [ia ty (b 1) 60 cd], [ia ty (b 2) 57 r]]) := D_perm (po (bs := [[ob (b 0) 9 [.int rf, .ref (b 1), .int (nI ln), .int (nI (numP cd ln [10, 1] 59 0 (numP cd ln [10, 1] 23 0 pos))), .ref (b 2), .ref (b 3), .ref (b 4), .ref (b 5), .int ac, .ref (b 6), .ref (b 7), .ref (b 8), .ref (b 9), .ref (b 10), .ref (b 11)]], [ia ty (b 1) 60 cd], [ia ty (b 2) 57 r]]) [0, 1, 2] 3 rfl (by decide +kernel) rfl) hD
      rcases opt_or (numV cd ln [10, 1] 59 0 (numP cd ln [10, 1] 23 0 pos)) with hq1 | ⟨n1, hq1⟩
      · have hle1 := hq1
        refine W.eq (g2 := F0 m 26 ls [.int (-99999999)]) (by rw [hq1]; rfl) ?_
        refine lv_istore_n (lv' := [(3, .int (-99999999)), (2, .int (nI n0)), (0, .ref (b 0)), (1, .int (nI na))]) hx hb dX10_readAlarm_26 rfl hl (by decide) rfl (fun ls hl => ?_)
        refine lv_aload_n hx hb dX10_readAlarm_27 rfl (lv_at hl 2 rfl) ?_
        refine va_get (D := D) (ci := 9) (v := .ref (b 2)) (C := RX10) (T := TX10) (N := 15) hx hb hts i_X10 hown hK hP 0 rfl rfl 4 (by decide) (hts (Cond.fieldLink RX10 13 "BrownClockModel" "read" "[I") (List.mem_of_getElem? (i := 2) rfl)) (fun _ h9 => h9) rfl dX10_readAlarm_28 ?_
        refine lv_bipush (v := 27) hx hb dX10_readAlarm_31 (by decide) ?_
        refine lv_iconst (v := 3) hx hb dX10_readAlarm_33 (by decide) ?_
        refine lv_iload_n hx hb dX10_readAlarm_34 rfl (lv_at hl 3 rfl) ?_
        refine k_imul (v := (nI (3 * na))) hx hb dX10_readAlarm_35 (nI_mul (3) (na)) ?_
        refine k_iadd (v := (nI (27 + 3 * na))) hx hb dX10_readAlarm_36 (nI_add (27) (3 * na)) ?_
        refine lv_iload_n hx hb dX10_readAlarm_37 rfl (lv_at hl 0 rfl) ?_
        refine lv_ldc hx hb hown (hts (Cond.constant RX10 53 (-99999999)) (List.mem_of_getElem? (i := 1) rfl)) dX10_readAlarm_38 ?_
        refine lv_icmp_ne (tgt := 48) hx hb dX10_readAlarm_40 (by decide) (fun c_11 => ?_) (fun c_11 => ?_)
        · first | exact absurd c_11 (by decide) | exact absurd (by decide) c_11
        · skip
          refine lv_ldc hx hb hown (hts (Cond.constant RX10 53 (-99999999)) (List.mem_of_getElem? (i := 1) rfl)) dX10_readAlarm_43 ?_
          refine lv_goto (tgt := 54) hx hb dX10_readAlarm_45 (by decide) ?_
          refine k_iast hx hb hK hP hD hS 2 rfl (27 + 3 * na) rfl (by omega) (Nat.le_of_ble_eq_true rfl) dX10_readAlarm_54 (fun H locs hP hD hS => ?_)
          have hP : va_P D vwCl (fl [[ob (b 0) 9 [.int rf, .ref (b 1), .int (nI ln), .int (nI (numP cd ln [10, 1] 59 0 (numP cd ln [10, 1] 23 0 pos))), .ref (b 2), .ref (b 3), .ref (b 4), .ref (b 5), .int ac, .ref (b 6), .ref (b 7), .ref (b 8), .ref (b 9), .ref (b 10), .ref (b 11)]], [ia ty (b 1) 60 cd], [ia ty (b 2) 57 (upd r (27 + 3 * na) (-99999999))]]) H := hP
          have hD : va_D A (fl [[ob (b 0) 9 [.int rf, .ref (b 1), .int (nI ln), .int (nI (numP cd ln [10, 1] 59 0 (numP cd ln [10, 1] 23 0 pos))), .ref (b 2), .ref (b 3), .ref (b 4), .ref (b 5), .int ac, .ref (b 6), .ref (b 7), .ref (b 8), .ref (b 9), .ref (b 10), .ref (b 11)]], [ia ty (b 1) 60 cd], [ia ty (b 2) 57 (upd r (27 + 3 * na) (-99999999))]]) := hD
          refine lv_iload_n hx hb dX10_readAlarm_55 rfl (lv_at hl 0 rfl) ?_
          refine lv_ldc hx hb hown (hts (Cond.constant RX10 53 (-99999999)) (List.mem_of_getElem? (i := 1) rfl)) dX10_readAlarm_56 ?_
          refine lv_icmp_eq (tgt := 65) hx hb dX10_readAlarm_58 (by decide) (fun c_12 => ?_) (fun c_12 => ?_)
          · skip
            refine lv_iconst (v := 0) hx hb dX10_readAlarm_65 (by decide) ?_
            have hP1 : alarmP cd ln pos = numP cd ln [10, 1] 59 0 (numP cd ln [10, 1] 23 0 pos) := by unfold alarmP; simp only [hq0, hq1]
            have hV1 : alarmV cd ln pos = none := by unfold alarmV; simp only [hq0, hq1]
            have hP : va_P D vwCl (fl [[ob (b 0) 9 [.int rf, .ref (b 1), .int (nI ln), .int (nI (alarmP cd ln pos)), .ref (b 2), .ref (b 3), .ref (b 4), .ref (b 5), .int ac, .ref (b 6), .ref (b 7), .ref (b 8), .ref (b 9), .ref (b 10), .ref (b 11)]], [ia ty (b 1) 60 cd], [ia ty (b 2) 57 (upd r (27 + 3 * na) (onV (alarmV cd ln pos)))]]) H := by rw [hP1, hV1]; exact hP
            have hD : va_D A (fl [[ob (b 0) 9 [.int rf, .ref (b 1), .int (nI ln), .int (nI (alarmP cd ln pos)), .ref (b 2), .ref (b 3), .ref (b 4), .ref (b 5), .int ac, .ref (b 6), .ref (b 7), .ref (b 8), .ref (b 9), .ref (b 10), .ref (b 11)]], [ia ty (b 1) 60 cd], [ia ty (b 2) 57 (upd r (27 + 3 * na) (onV (alarmV cd ln pos)))]]) := (D_same2 hD [(b 0), (b 1), (b 2)] rfl rfl)
            exact end_z (bs' := (fun (_ : Unit) => [[ob (b 0) 9 [.int rf, .ref (b 1), .int (nI ln), .int (nI (alarmP cd ln pos)), .ref (b 2), .ref (b 3), .ref (b 4), .ref (b 5), .int ac, .ref (b 6), .ref (b 7), .ref (b 8), .ref (b 9), .ref (b 10), .ref (b 11)]], [ia ty (b 1) 60 cd], [ia ty (b 2) 57 (upd r (27 + 3 * na) (onV (alarmV cd ln pos)))]])) () hx hb hr hlocks rfl hP hD hS (by rw [hV1]; rfl) (Nat.le_of_ble_eq_true rfl) (Nat.le_of_ble_eq_true rfl) dX10_readAlarm_66
          · exact absurd (by decide) c_12
      · have hle1 := numV_le hq1 (Nat.zero_le _)
        refine W.eq (g2 := F0 m 26 ls [.int (nI n1)]) (by rw [hq1]; rfl) ?_
        refine lv_istore_n (lv' := [(3, .int (nI n1)), (2, .int (nI n0)), (0, .ref (b 0)), (1, .int (nI na))]) hx hb dX10_readAlarm_26 rfl hl (by decide) rfl (fun ls hl => ?_)
        refine lv_aload_n hx hb dX10_readAlarm_27 rfl (lv_at hl 2 rfl) ?_
        refine va_get (D := D) (ci := 9) (v := .ref (b 2)) (C := RX10) (T := TX10) (N := 15) hx hb hts i_X10 hown hK hP 0 rfl rfl 4 (by decide) (hts (Cond.fieldLink RX10 13 "BrownClockModel" "read" "[I") (List.mem_of_getElem? (i := 2) rfl)) (fun _ h9 => h9) rfl dX10_readAlarm_28 ?_
        refine lv_bipush (v := 27) hx hb dX10_readAlarm_31 (by decide) ?_
        refine lv_iconst (v := 3) hx hb dX10_readAlarm_33 (by decide) ?_
        refine lv_iload_n hx hb dX10_readAlarm_34 rfl (lv_at hl 3 rfl) ?_
        refine k_imul (v := (nI (3 * na))) hx hb dX10_readAlarm_35 (nI_mul (3) (na)) ?_
        refine k_iadd (v := (nI (27 + 3 * na))) hx hb dX10_readAlarm_36 (nI_add (27) (3 * na)) ?_
        refine lv_iload_n hx hb dX10_readAlarm_37 rfl (lv_at hl 0 rfl) ?_
        refine lv_ldc hx hb hown (hts (Cond.constant RX10 53 (-99999999)) (List.mem_of_getElem? (i := 1) rfl)) dX10_readAlarm_38 ?_
        refine lv_icmp_ne (tgt := 48) hx hb dX10_readAlarm_40 (by decide) (fun c_13 => ?_) (fun c_13 => ?_)
        · skip
          refine lv_bipush (v := 60) hx hb dX10_readAlarm_48 (by decide) ?_
          refine lv_iload_n hx hb dX10_readAlarm_50 rfl (lv_at hl 1 rfl) ?_
          refine k_imul (v := (nI (60 * n0))) hx hb dX10_readAlarm_51 (nI_mul (60) (n0)) ?_
          refine lv_iload_n hx hb dX10_readAlarm_52 rfl (lv_at hl 0 rfl) ?_
          refine k_iadd (v := (nI (60 * n0 + n1))) hx hb dX10_readAlarm_53 (nI_add (60 * n0) (n1)) ?_
          refine k_iast hx hb hK hP hD hS 2 rfl (27 + 3 * na) rfl (by omega) (Nat.le_of_ble_eq_true rfl) dX10_readAlarm_54 (fun H locs hP hD hS => ?_)
          have hP : va_P D vwCl (fl [[ob (b 0) 9 [.int rf, .ref (b 1), .int (nI ln), .int (nI (numP cd ln [10, 1] 59 0 (numP cd ln [10, 1] 23 0 pos))), .ref (b 2), .ref (b 3), .ref (b 4), .ref (b 5), .int ac, .ref (b 6), .ref (b 7), .ref (b 8), .ref (b 9), .ref (b 10), .ref (b 11)]], [ia ty (b 1) 60 cd], [ia ty (b 2) 57 (upd r (27 + 3 * na) (nI (60 * n0 + n1)))]]) H := hP
          have hD : va_D A (fl [[ob (b 0) 9 [.int rf, .ref (b 1), .int (nI ln), .int (nI (numP cd ln [10, 1] 59 0 (numP cd ln [10, 1] 23 0 pos))), .ref (b 2), .ref (b 3), .ref (b 4), .ref (b 5), .int ac, .ref (b 6), .ref (b 7), .ref (b 8), .ref (b 9), .ref (b 10), .ref (b 11)]], [ia ty (b 1) 60 cd], [ia ty (b 2) 57 (upd r (27 + 3 * na) (nI (60 * n0 + n1)))]]) := hD
          refine lv_iload_n hx hb dX10_readAlarm_55 rfl (lv_at hl 0 rfl) ?_
          refine lv_ldc hx hb hown (hts (Cond.constant RX10 53 (-99999999)) (List.mem_of_getElem? (i := 1) rfl)) dX10_readAlarm_56 ?_
          refine lv_icmp_eq (tgt := 65) hx hb dX10_readAlarm_58 (by decide) (fun c_14 => ?_) (fun c_14 => ?_)
          · first | exact absurd c_14 (nI_nn (n := n1) (by omega)) | exact absurd (nI_nn (n := n1) (by omega)) c_14
          · skip
            refine lv_iconst (v := 1) hx hb dX10_readAlarm_61 (by decide) ?_
            refine lv_goto (tgt := 66) hx hb dX10_readAlarm_62 (by decide) ?_
            have hP1 : alarmP cd ln pos = numP cd ln [10, 1] 59 0 (numP cd ln [10, 1] 23 0 pos) := by unfold alarmP; simp only [hq0, hq1]
            have hV1 : alarmV cd ln pos = some (60 * n0 + n1) := by unfold alarmV; simp only [hq0, hq1]
            have hP : va_P D vwCl (fl [[ob (b 0) 9 [.int rf, .ref (b 1), .int (nI ln), .int (nI (alarmP cd ln pos)), .ref (b 2), .ref (b 3), .ref (b 4), .ref (b 5), .int ac, .ref (b 6), .ref (b 7), .ref (b 8), .ref (b 9), .ref (b 10), .ref (b 11)]], [ia ty (b 1) 60 cd], [ia ty (b 2) 57 (upd r (27 + 3 * na) (onV (alarmV cd ln pos)))]]) H := by rw [hP1, hV1]; exact hP
            have hD : va_D A (fl [[ob (b 0) 9 [.int rf, .ref (b 1), .int (nI ln), .int (nI (alarmP cd ln pos)), .ref (b 2), .ref (b 3), .ref (b 4), .ref (b 5), .int ac, .ref (b 6), .ref (b 7), .ref (b 8), .ref (b 9), .ref (b 10), .ref (b 11)]], [ia ty (b 1) 60 cd], [ia ty (b 2) 57 (upd r (27 + 3 * na) (onV (alarmV cd ln pos)))]]) := (D_same2 hD [(b 0), (b 1), (b 2)] rfl rfl)
            exact end_z (bs' := (fun (_ : Unit) => [[ob (b 0) 9 [.int rf, .ref (b 1), .int (nI ln), .int (nI (alarmP cd ln pos)), .ref (b 2), .ref (b 3), .ref (b 4), .ref (b 5), .int ac, .ref (b 6), .ref (b 7), .ref (b 8), .ref (b 9), .ref (b 10), .ref (b 11)]], [ia ty (b 1) 60 cd], [ia ty (b 2) 57 (upd r (27 + 3 * na) (onV (alarmV cd ln pos)))]])) () hx hb hr hlocks rfl hP hD hS (by rw [hV1]; rfl) (Nat.le_of_ble_eq_true rfl) (Nat.le_of_ble_eq_true rfl) dX10_readAlarm_66
        · first | exact absurd c_13 (nI_nn (n := n1) (by omega)) | exact absurd (nI_nn (n := n1) (by omega)) c_13
    · first | exact absurd c_7 (nI_nn (n := n0) (by omega)) | exact absurd (nI_nn (n := n0) (by omega)) c_7
