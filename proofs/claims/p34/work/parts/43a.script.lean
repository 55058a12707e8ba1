set_option maxHeartbeats 4000000 in
set_option maxRecDepth 100000 in
theorem c_X3_fits1 (l : Launch) (D : va_G) (ty : Nat → ClassId) (w9 : Int64) : CTi l yX3_fits wsX3_fits ({ frames := 0, cells := 0, slots := 0, locals := 0 }) D ty [.int 1, .long w9] [] (fun (RET : Int32) (_ : Unit) => RET = (if lg_cmp (w9 / 100000) 0 = 0 then 1 else 0)) (fun (_ : Unit) => []) := by
  refine CTi_of cX3_fits 6 (some .boolean) (by decide) rfl (Nat.le_of_ble_eq_true rfl) ?_
  intro p e s m args below meth c A hx hb hr hml hown hlocks hin hts hA hX hK hP hD ls hl
  have hown : s.vm.findClass RX3 = some m.cls := hown
  have hS : va_S A s.heap s.heap [] := va_S.rf
  have hl : lv_has ls 6 [(0, .int 1), (1, .long w9)] := hl
  refine lv_lload_n hx hb dX3_fits_0 rfl (lv_at hl 1 rfl) ?_
  refine lv_lstore_n (lv' := [(3, .long w9), (0, .int 1), (1, .long w9)]) hx hb dX3_fits_1 rfl hl (by decide) rfl (fun ls hl => ?_)
  refine lv_iconst (v := 0) hx hb dX3_fits_2 (by decide) ?_
  refine lv_istore (lv' := [(5, .int 0), (3, .long w9), (0, .int 1), (1, .long w9)]) hx hb dX3_fits_3 hl (by decide) rfl (fun ls hl => ?_)
  refine lv_iload hx hb dX3_fits_5 (lv_at hl 0 rfl) ?_
  refine lv_iload_n hx hb dX3_fits_7 rfl (lv_at hl 2 rfl) ?_
  refine lv_icmp_ge (tgt := 23) hx hb dX3_fits_8 (by decide) (fun c_1 => ?_) (fun c_1 => ?_)
  · exact absurd c_1 (by decide)
  · skip
    refine lv_lload_n hx hb dX3_fits_11 rfl (lv_at hl 1 rfl) ?_
    refine lv_ldc2 hx hb hown (hts (Cond.constantLong RX3 9 (100000)) (List.mem_of_getElem? (i := 1) rfl)) dX3_fits_12 ?_
    refine lv_ldiv hx hb dX3_fits_15 (by decide) ?_
    refine lv_lstore_n (lv' := [(3, .long (w9 / 100000)), (5, .int 0), (0, .int 1), (1, .long w9)]) hx hb dX3_fits_16 rfl hl (by decide) rfl (fun ls hl => ?_)
    refine lv_iinc (v := 1) (lv' := [(5, .int 1), (3, .long (w9 / 100000)), (0, .int 1), (1, .long w9)]) hx hb dX3_fits_17 hl (k := 1) rfl (by decide) (by decide) rfl (fun ls hl => ?_)
    refine lv_goto (tgt := 5) hx hb dX3_fits_20 (by decide) ?_
    refine lv_iload hx hb dX3_fits_5 (lv_at hl 0 rfl) ?_
    refine lv_iload_n hx hb dX3_fits_7 rfl (lv_at hl 2 rfl) ?_
    refine lv_icmp_ge (tgt := 23) hx hb dX3_fits_8 (by decide) (fun c_2 => ?_) (fun c_2 => ?_)
    · skip
      refine lv_lload_n hx hb dX3_fits_23 rfl (lv_at hl 1 rfl) ?_
      refine lv_lconst (v := 0) hx hb dX3_fits_24 (by decide) ?_
      refine W.lcmp hx hb dX3_fits_25 ?_
      refine lv_if_ne (tgt := 33) hx hb dX3_fits_26 (by decide) (fun c_3 => ?_) (fun c_3 => ?_)
      · skip
        refine lv_iconst (v := 0) hx hb dX3_fits_33 (by decide) ?_
        have hP : va_P D vwCl (fl []) s.heap := hP
        have hD : va_D A (fl []) := hD
        exact end_z (bs' := (fun (_ : Unit) => [])) () hx hb hr hlocks rfl hP hD hS (by simp [c_3]) (Nat.le_of_ble_eq_true rfl) (Nat.le_of_ble_eq_true rfl) dX3_fits_34
      · skip
        refine lv_iconst (v := 1) hx hb dX3_fits_29 (by decide) ?_
        refine lv_goto (tgt := 34) hx hb dX3_fits_30 (by decide) ?_
        have hP : va_P D vwCl (fl []) s.heap := hP
        have hD : va_D A (fl []) := hD
        exact end_z (bs' := (fun (_ : Unit) => [])) () hx hb hr hlocks rfl hP hD hS (by simp [c_3]) (Nat.le_of_ble_eq_true rfl) (Nat.le_of_ble_eq_true rfl) dX3_fits_34
    · exact absurd (by decide) c_2
set_option maxHeartbeats 4000000 in
set_option maxRecDepth 100000 in
theorem c_X3_command10 (l : Launch) (D : va_G) (ty : Nat → ClassId) (w9 : Int64) : CTi l yX3_command wsX3_command ({ frames := 0, cells := 0, slots := 0, locals := 0 }) D ty [.int 1, .long w9, .int 0] [] (fun (RET : Int32) (_ : Unit) => RET = (Int64.toInt32 (lrem64 w9 100000))) (fun (_ : Unit) => []) := by
  refine CTi_of cX3_command 7 (some .int) (by decide) rfl (Nat.le_of_ble_eq_true rfl) ?_
  intro p e s m args below meth c A hx hb hr hml hown hlocks hin hts hA hX hK hP hD ls hl
  have hown : s.vm.findClass RX3 = some m.cls := hown
  have hS : va_S A s.heap s.heap [] := va_S.rf
  have hl : lv_has ls 7 [(0, .int 1), (1, .long w9), (3, .int 0)] := hl
  refine lv_lload_n hx hb dX3_command_0 rfl (lv_at hl 1 rfl) ?_
  refine lv_lstore (lv' := [(4, .long w9), (0, .int 1), (1, .long w9), (3, .int 0)]) hx hb dX3_command_1 hl (by decide) rfl (fun ls hl => ?_)
  refine lv_iload_n hx hb dX3_command_3 rfl (lv_at hl 3 rfl) ?_
  refine lv_iconst (v := 1) hx hb dX3_command_4 (by decide) ?_
  refine k_iadd (v := 1) hx hb dX3_command_5 (by decide) ?_
  refine lv_istore (lv' := [(6, .int 1), (4, .long w9), (0, .int 1), (1, .long w9), (3, .int 0)]) hx hb dX3_command_6 hl (by decide) rfl (fun ls hl => ?_)
  refine lv_iload hx hb dX3_command_8 (lv_at hl 0 rfl) ?_
  refine lv_iload_n hx hb dX3_command_10 rfl (lv_at hl 2 rfl) ?_
  refine lv_icmp_ge (tgt := 28) hx hb dX3_command_11 (by decide) (fun c_1 => ?_) (fun c_1 => ?_)
  · skip
    refine lv_lload hx hb dX3_command_28 (lv_at hl 1 rfl) ?_
    refine lv_ldc2 hx hb hown (hts (Cond.constantLong RX3 9 (100000)) (List.mem_of_getElem? (i := 1) rfl)) dX3_command_30 ?_
    refine lv_lrem hx hb dX3_command_33 (by decide) ?_
    refine lv_l2i (v := (Int64.toInt32 (lrem64 w9 100000))) hx hb dX3_command_34 rfl ?_
    have hP : va_P D vwCl (fl []) s.heap := hP
    have hD : va_D A (fl []) := hD
    exact end_i (bs' := (fun (_ : Unit) => [])) () hx hb hr hlocks hP hD hS (by first | rfl | decide | simp [c_1]) (Nat.le_of_ble_eq_true rfl) (Nat.le_of_ble_eq_true rfl) dX3_command_35
  · exact absurd (by decide) c_1
set_option maxHeartbeats 4000000 in
set_option maxRecDepth 100000 in
theorem c_X3_fits2 (l : Launch) (D : va_G) (ty : Nat → ClassId) (w9 : Int64) : CTi l yX3_fits wsX3_fits ({ frames := 0, cells := 0, slots := 0, locals := 0 }) D ty [.int 2, .long w9] [] (fun (RET : Int32) (_ : Unit) => RET = (if lg_cmp ((w9 / 100000) / 100000) 0 = 0 then 1 else 0)) (fun (_ : Unit) => []) := by
  refine CTi_of cX3_fits 6 (some .boolean) (by decide) rfl (Nat.le_of_ble_eq_true rfl) ?_
  intro p e s m args below meth c A hx hb hr hml hown hlocks hin hts hA hX hK hP hD ls hl
  have hown : s.vm.findClass RX3 = some m.cls := hown
  have hS : va_S A s.heap s.heap [] := va_S.rf
  have hl : lv_has ls 6 [(0, .int 2), (1, .long w9)] := hl
  refine lv_lload_n hx hb dX3_fits_0 rfl (lv_at hl 1 rfl) ?_
  refine lv_lstore_n (lv' := [(3, .long w9), (0, .int 2), (1, .long w9)]) hx hb dX3_fits_1 rfl hl (by decide) rfl (fun ls hl => ?_)
  refine lv_iconst (v := 0) hx hb dX3_fits_2 (by decide) ?_
  refine lv_istore (lv' := [(5, .int 0), (3, .long w9), (0, .int 2), (1, .long w9)]) hx hb dX3_fits_3 hl (by decide) rfl (fun ls hl => ?_)
  refine lv_iload hx hb dX3_fits_5 (lv_at hl 0 rfl) ?_
  refine lv_iload_n hx hb dX3_fits_7 rfl (lv_at hl 2 rfl) ?_
  refine lv_icmp_ge (tgt := 23) hx hb dX3_fits_8 (by decide) (fun c_1 => ?_) (fun c_1 => ?_)
  · exact absurd c_1 (by decide)
  · skip
    refine lv_lload_n hx hb dX3_fits_11 rfl (lv_at hl 1 rfl) ?_
    refine lv_ldc2 hx hb hown (hts (Cond.constantLong RX3 9 (100000)) (List.mem_of_getElem? (i := 1) rfl)) dX3_fits_12 ?_
    refine lv_ldiv hx hb dX3_fits_15 (by decide) ?_
    refine lv_lstore_n (lv' := [(3, .long (w9 / 100000)), (5, .int 0), (0, .int 2), (1, .long w9)]) hx hb dX3_fits_16 rfl hl (by decide) rfl (fun ls hl => ?_)
    refine lv_iinc (v := 1) (lv' := [(5, .int 1), (3, .long (w9 / 100000)), (0, .int 2), (1, .long w9)]) hx hb dX3_fits_17 hl (k := 1) rfl (by decide) (by decide) rfl (fun ls hl => ?_)
    refine lv_goto (tgt := 5) hx hb dX3_fits_20 (by decide) ?_
    refine lv_iload hx hb dX3_fits_5 (lv_at hl 0 rfl) ?_
    refine lv_iload_n hx hb dX3_fits_7 rfl (lv_at hl 2 rfl) ?_
    refine lv_icmp_ge (tgt := 23) hx hb dX3_fits_8 (by decide) (fun c_2 => ?_) (fun c_2 => ?_)
    · exact absurd c_2 (by decide)
    · skip
      refine lv_lload_n hx hb dX3_fits_11 rfl (lv_at hl 1 rfl) ?_
      refine lv_ldc2 hx hb hown (hts (Cond.constantLong RX3 9 (100000)) (List.mem_of_getElem? (i := 1) rfl)) dX3_fits_12 ?_
      refine lv_ldiv hx hb dX3_fits_15 (by decide) ?_
      refine lv_lstore_n (lv' := [(3, .long ((w9 / 100000) / 100000)), (5, .int 1), (0, .int 2), (1, .long w9)]) hx hb dX3_fits_16 rfl hl (by decide) rfl (fun ls hl => ?_)
      refine lv_iinc (v := 2) (lv' := [(5, .int 2), (3, .long ((w9 / 100000) / 100000)), (0, .int 2), (1, .long w9)]) hx hb dX3_fits_17 hl (k := 1) rfl (by decide) (by decide) rfl (fun ls hl => ?_)
      refine lv_goto (tgt := 5) hx hb dX3_fits_20 (by decide) ?_
      refine lv_iload hx hb dX3_fits_5 (lv_at hl 0 rfl) ?_
      refine lv_iload_n hx hb dX3_fits_7 rfl (lv_at hl 2 rfl) ?_
      refine lv_icmp_ge (tgt := 23) hx hb dX3_fits_8 (by decide) (fun c_3 => ?_) (fun c_3 => ?_)
      · skip
        refine lv_lload_n hx hb dX3_fits_23 rfl (lv_at hl 1 rfl) ?_
        refine lv_lconst (v := 0) hx hb dX3_fits_24 (by decide) ?_
        refine W.lcmp hx hb dX3_fits_25 ?_
        refine lv_if_ne (tgt := 33) hx hb dX3_fits_26 (by decide) (fun c_4 => ?_) (fun c_4 => ?_)
        · skip
          refine lv_iconst (v := 0) hx hb dX3_fits_33 (by decide) ?_
          have hP : va_P D vwCl (fl []) s.heap := hP
          have hD : va_D A (fl []) := hD
          exact end_z (bs' := (fun (_ : Unit) => [])) () hx hb hr hlocks rfl hP hD hS (by simp [c_4]) (Nat.le_of_ble_eq_true rfl) (Nat.le_of_ble_eq_true rfl) dX3_fits_34
        · skip
          refine lv_iconst (v := 1) hx hb dX3_fits_29 (by decide) ?_
          refine lv_goto (tgt := 34) hx hb dX3_fits_30 (by decide) ?_
          have hP : va_P D vwCl (fl []) s.heap := hP
          have hD : va_D A (fl []) := hD
          exact end_z (bs' := (fun (_ : Unit) => [])) () hx hb hr hlocks rfl hP hD hS (by simp [c_4]) (Nat.le_of_ble_eq_true rfl) (Nat.le_of_ble_eq_true rfl) dX3_fits_34
      · exact absurd (by decide) c_3
set_option maxHeartbeats 4000000 in
set_option maxRecDepth 100000 in
theorem c_X3_command20 (l : Launch) (D : va_G) (ty : Nat → ClassId) (w9 : Int64) : CTi l yX3_command wsX3_command ({ frames := 0, cells := 0, slots := 0, locals := 0 }) D ty [.int 2, .long w9, .int 0] [] (fun (RET : Int32) (_ : Unit) => RET = (Int64.toInt32 (lrem64 (w9 / 100000) 100000))) (fun (_ : Unit) => []) := by
  refine CTi_of cX3_command 7 (some .int) (by decide) rfl (Nat.le_of_ble_eq_true rfl) ?_
  intro p e s m args below meth c A hx hb hr hml hown hlocks hin hts hA hX hK hP hD ls hl
  have hown : s.vm.findClass RX3 = some m.cls := hown
  have hS : va_S A s.heap s.heap [] := va_S.rf
  have hl : lv_has ls 7 [(0, .int 2), (1, .long w9), (3, .int 0)] := hl
  refine lv_lload_n hx hb dX3_command_0 rfl (lv_at hl 1 rfl) ?_
  refine lv_lstore (lv' := [(4, .long w9), (0, .int 2), (1, .long w9), (3, .int 0)]) hx hb dX3_command_1 hl (by decide) rfl (fun ls hl => ?_)
  refine lv_iload_n hx hb dX3_command_3 rfl (lv_at hl 3 rfl) ?_
  refine lv_iconst (v := 1) hx hb dX3_command_4 (by decide) ?_
  refine k_iadd (v := 1) hx hb dX3_command_5 (by decide) ?_
  refine lv_istore (lv' := [(6, .int 1), (4, .long w9), (0, .int 2), (1, .long w9), (3, .int 0)]) hx hb dX3_command_6 hl (by decide) rfl (fun ls hl => ?_)
  refine lv_iload hx hb dX3_command_8 (lv_at hl 0 rfl) ?_
  refine lv_iload_n hx hb dX3_command_10 rfl (lv_at hl 2 rfl) ?_
  refine lv_icmp_ge (tgt := 28) hx hb dX3_command_11 (by decide) (fun c_1 => ?_) (fun c_1 => ?_)
  · exact absurd c_1 (by decide)
  · skip
    refine lv_lload hx hb dX3_command_14 (lv_at hl 1 rfl) ?_
    refine lv_ldc2 hx hb hown (hts (Cond.constantLong RX3 9 (100000)) (List.mem_of_getElem? (i := 1) rfl)) dX3_command_16 ?_
    refine lv_ldiv hx hb dX3_command_19 (by decide) ?_
    refine lv_lstore (lv' := [(4, .long (w9 / 100000)), (6, .int 1), (0, .int 2), (1, .long w9), (3, .int 0)]) hx hb dX3_command_20 hl (by decide) rfl (fun ls hl => ?_)
    refine lv_iinc (v := 2) (lv' := [(6, .int 2), (4, .long (w9 / 100000)), (0, .int 2), (1, .long w9), (3, .int 0)]) hx hb dX3_command_22 hl (k := 1) rfl (by decide) (by decide) rfl (fun ls hl => ?_)
    refine lv_goto (tgt := 8) hx hb dX3_command_25 (by decide) ?_
    refine lv_iload hx hb dX3_command_8 (lv_at hl 0 rfl) ?_
    refine lv_iload_n hx hb dX3_command_10 rfl (lv_at hl 2 rfl) ?_
    refine lv_icmp_ge (tgt := 28) hx hb dX3_command_11 (by decide) (fun c_2 => ?_) (fun c_2 => ?_)
    · skip
      refine lv_lload hx hb dX3_command_28 (lv_at hl 1 rfl) ?_
      refine lv_ldc2 hx hb hown (hts (Cond.constantLong RX3 9 (100000)) (List.mem_of_getElem? (i := 1) rfl)) dX3_command_30 ?_
      refine lv_lrem hx hb dX3_command_33 (by decide) ?_
      refine lv_l2i (v := (Int64.toInt32 (lrem64 (w9 / 100000) 100000))) hx hb dX3_command_34 rfl ?_
      have hP : va_P D vwCl (fl []) s.heap := hP
      have hD : va_D A (fl []) := hD
      exact end_i (bs' := (fun (_ : Unit) => [])) () hx hb hr hlocks hP hD hS (by first | rfl | decide | simp [c_1, c_2]) (Nat.le_of_ble_eq_true rfl) (Nat.le_of_ble_eq_true rfl) dX3_command_35
    · exact absurd (by decide) c_2
set_option maxHeartbeats 4000000 in
set_option maxRecDepth 100000 in
theorem c_X3_command21 (l : Launch) (D : va_G) (ty : Nat → ClassId) (w9 : Int64) : CTi l yX3_command wsX3_command ({ frames := 0, cells := 0, slots := 0, locals := 0 }) D ty [.int 2, .long w9, .int 1] [] (fun (RET : Int32) (_ : Unit) => RET = (Int64.toInt32 (lrem64 w9 100000))) (fun (_ : Unit) => []) := by
  refine CTi_of cX3_command 7 (some .int) (by decide) rfl (Nat.le_of_ble_eq_true rfl) ?_
  intro p e s m args below meth c A hx hb hr hml hown hlocks hin hts hA hX hK hP hD ls hl
  have hown : s.vm.findClass RX3 = some m.cls := hown
  have hS : va_S A s.heap s.heap [] := va_S.rf
  have hl : lv_has ls 7 [(0, .int 2), (1, .long w9), (3, .int 1)] := hl
  refine lv_lload_n hx hb dX3_command_0 rfl (lv_at hl 1 rfl) ?_
  refine lv_lstore (lv' := [(4, .long w9), (0, .int 2), (1, .long w9), (3, .int 1)]) hx hb dX3_command_1 hl (by decide) rfl (fun ls hl => ?_)
  refine lv_iload_n hx hb dX3_command_3 rfl (lv_at hl 3 rfl) ?_
  refine lv_iconst (v := 1) hx hb dX3_command_4 (by decide) ?_
  refine k_iadd (v := 2) hx hb dX3_command_5 (by decide) ?_
  refine lv_istore (lv' := [(6, .int 2), (4, .long w9), (0, .int 2), (1, .long w9), (3, .int 1)]) hx hb dX3_command_6 hl (by decide) rfl (fun ls hl => ?_)
  refine lv_iload hx hb dX3_command_8 (lv_at hl 0 rfl) ?_
  refine lv_iload_n hx hb dX3_command_10 rfl (lv_at hl 2 rfl) ?_
  refine lv_icmp_ge (tgt := 28) hx hb dX3_command_11 (by decide) (fun c_1 => ?_) (fun c_1 => ?_)
  · skip
    refine lv_lload hx hb dX3_command_28 (lv_at hl 1 rfl) ?_
    refine lv_ldc2 hx hb hown (hts (Cond.constantLong RX3 9 (100000)) (List.mem_of_getElem? (i := 1) rfl)) dX3_command_30 ?_
    refine lv_lrem hx hb dX3_command_33 (by decide) ?_
    refine lv_l2i (v := (Int64.toInt32 (lrem64 w9 100000))) hx hb dX3_command_34 rfl ?_
    have hP : va_P D vwCl (fl []) s.heap := hP
    have hD : va_D A (fl []) := hD
    exact end_i (bs' := (fun (_ : Unit) => [])) () hx hb hr hlocks hP hD hS (by first | rfl | decide | simp [c_1]) (Nat.le_of_ble_eq_true rfl) (Nat.le_of_ble_eq_true rfl) dX3_command_35
  · exact absurd (by decide) c_1
set_option maxHeartbeats 4000000 in
set_option maxRecDepth 100000 in
theorem c_X3_fits3 (l : Launch) (D : va_G) (ty : Nat → ClassId) (w9 : Int64) : CTi l yX3_fits wsX3_fits ({ frames := 0, cells := 0, slots := 0, locals := 0 }) D ty [.int 3, .long w9] [] (fun (RET : Int32) (_ : Unit) => RET = (if lg_cmp (((w9 / 100000) / 100000) / 100000) 0 = 0 then 1 else 0)) (fun (_ : Unit) => []) := by
  refine CTi_of cX3_fits 6 (some .boolean) (by decide) rfl (Nat.le_of_ble_eq_true rfl) ?_
  intro p e s m args below meth c A hx hb hr hml hown hlocks hin hts hA hX hK hP hD ls hl
  have hown : s.vm.findClass RX3 = some m.cls := hown
  have hS : va_S A s.heap s.heap [] := va_S.rf
  have hl : lv_has ls 6 [(0, .int 3), (1, .long w9)] := hl
  refine lv_lload_n hx hb dX3_fits_0 rfl (lv_at hl 1 rfl) ?_
  refine lv_lstore_n (lv' := [(3, .long w9), (0, .int 3), (1, .long w9)]) hx hb dX3_fits_1 rfl hl (by decide) rfl (fun ls hl => ?_)
  refine lv_iconst (v := 0) hx hb dX3_fits_2 (by decide) ?_
  refine lv_istore (lv' := [(5, .int 0), (3, .long w9), (0, .int 3), (1, .long w9)]) hx hb dX3_fits_3 hl (by decide) rfl (fun ls hl => ?_)
  refine lv_iload hx hb dX3_fits_5 (lv_at hl 0 rfl) ?_
  refine lv_iload_n hx hb dX3_fits_7 rfl (lv_at hl 2 rfl) ?_
  refine lv_icmp_ge (tgt := 23) hx hb dX3_fits_8 (by decide) (fun c_1 => ?_) (fun c_1 => ?_)
  · exact absurd c_1 (by decide)
  · skip
    refine lv_lload_n hx hb dX3_fits_11 rfl (lv_at hl 1 rfl) ?_
    refine lv_ldc2 hx hb hown (hts (Cond.constantLong RX3 9 (100000)) (List.mem_of_getElem? (i := 1) rfl)) dX3_fits_12 ?_
    refine lv_ldiv hx hb dX3_fits_15 (by decide) ?_
    refine lv_lstore_n (lv' := [(3, .long (w9 / 100000)), (5, .int 0), (0, .int 3), (1, .long w9)]) hx hb dX3_fits_16 rfl hl (by decide) rfl (fun ls hl => ?_)
    refine lv_iinc (v := 1) (lv' := [(5, .int 1), (3, .long (w9 / 100000)), (0, .int 3), (1, .long w9)]) hx hb dX3_fits_17 hl (k := 1) rfl (by decide) (by decide) rfl (fun ls hl => ?_)
    refine lv_goto (tgt := 5) hx hb dX3_fits_20 (by decide) ?_
    refine lv_iload hx hb dX3_fits_5 (lv_at hl 0 rfl) ?_
    refine lv_iload_n hx hb dX3_fits_7 rfl (lv_at hl 2 rfl) ?_
    refine lv_icmp_ge (tgt := 23) hx hb dX3_fits_8 (by decide) (fun c_2 => ?_) (fun c_2 => ?_)
    · exact absurd c_2 (by decide)
    · skip
      refine lv_lload_n hx hb dX3_fits_11 rfl (lv_at hl 1 rfl) ?_
      refine lv_ldc2 hx hb hown (hts (Cond.constantLong RX3 9 (100000)) (List.mem_of_getElem? (i := 1) rfl)) dX3_fits_12 ?_
      refine lv_ldiv hx hb dX3_fits_15 (by decide) ?_
      refine lv_lstore_n (lv' := [(3, .long ((w9 / 100000) / 100000)), (5, .int 1), (0, .int 3), (1, .long w9)]) hx hb dX3_fits_16 rfl hl (by decide) rfl (fun ls hl => ?_)
      refine lv_iinc (v := 2) (lv' := [(5, .int 2), (3, .long ((w9 / 100000) / 100000)), (0, .int 3), (1, .long w9)]) hx hb dX3_fits_17 hl (k := 1) rfl (by decide) (by decide) rfl (fun ls hl => ?_)
      refine lv_goto (tgt := 5) hx hb dX3_fits_20 (by decide) ?_
      refine lv_iload hx hb dX3_fits_5 (lv_at hl 0 rfl) ?_
      refine lv_iload_n hx hb dX3_fits_7 rfl (lv_at hl 2 rfl) ?_
      refine lv_icmp_ge (tgt := 23) hx hb dX3_fits_8 (by decide) (fun c_3 => ?_) (fun c_3 => ?_)
      · exact absurd c_3 (by decide)
      · skip
        refine lv_lload_n hx hb dX3_fits_11 rfl (lv_at hl 1 rfl) ?_
        refine lv_ldc2 hx hb hown (hts (Cond.constantLong RX3 9 (100000)) (List.mem_of_getElem? (i := 1) rfl)) dX3_fits_12 ?_
        refine lv_ldiv hx hb dX3_fits_15 (by decide) ?_
        refine lv_lstore_n (lv' := [(3, .long (((w9 / 100000) / 100000) / 100000)), (5, .int 2), (0, .int 3), (1, .long w9)]) hx hb dX3_fits_16 rfl hl (by decide) rfl (fun ls hl => ?_)
        refine lv_iinc (v := 3) (lv' := [(5, .int 3), (3, .long (((w9 / 100000) / 100000) / 100000)), (0, .int 3), (1, .long w9)]) hx hb dX3_fits_17 hl (k := 1) rfl (by decide) (by decide) rfl (fun ls hl => ?_)
        refine lv_goto (tgt := 5) hx hb dX3_fits_20 (by decide) ?_
        refine lv_iload hx hb dX3_fits_5 (lv_at hl 0 rfl) ?_
        refine lv_iload_n hx hb dX3_fits_7 rfl (lv_at hl 2 rfl) ?_
        refine lv_icmp_ge (tgt := 23) hx hb dX3_fits_8 (by decide) (fun c_4 => ?_) (fun c_4 => ?_)
        · skip
          refine lv_lload_n hx hb dX3_fits_23 rfl (lv_at hl 1 rfl) ?_
          refine lv_lconst (v := 0) hx hb dX3_fits_24 (by decide) ?_
          refine W.lcmp hx hb dX3_fits_25 ?_
          refine lv_if_ne (tgt := 33) hx hb dX3_fits_26 (by decide) (fun c_5 => ?_) (fun c_5 => ?_)
          · skip
            refine lv_iconst (v := 0) hx hb dX3_fits_33 (by decide) ?_
            have hP : va_P D vwCl (fl []) s.heap := hP
            have hD : va_D A (fl []) := hD
            exact end_z (bs' := (fun (_ : Unit) => [])) () hx hb hr hlocks rfl hP hD hS (by simp [c_5]) (Nat.le_of_ble_eq_true rfl) (Nat.le_of_ble_eq_true rfl) dX3_fits_34
          · skip
            refine lv_iconst (v := 1) hx hb dX3_fits_29 (by decide) ?_
            refine lv_goto (tgt := 34) hx hb dX3_fits_30 (by decide) ?_
            have hP : va_P D vwCl (fl []) s.heap := hP
            have hD : va_D A (fl []) := hD
            exact end_z (bs' := (fun (_ : Unit) => [])) () hx hb hr hlocks rfl hP hD hS (by simp [c_5]) (Nat.le_of_ble_eq_true rfl) (Nat.le_of_ble_eq_true rfl) dX3_fits_34
        · exact absurd (by decide) c_4
set_option maxHeartbeats 4000000 in
set_option maxRecDepth 100000 in
theorem c_X3_command30 (l : Launch) (D : va_G) (ty : Nat → ClassId) (w9 : Int64) : CTi l yX3_command wsX3_command ({ frames := 0, cells := 0, slots := 0, locals := 0 }) D ty [.int 3, .long w9, .int 0] [] (fun (RET : Int32) (_ : Unit) => RET = (Int64.toInt32 (lrem64 ((w9 / 100000) / 100000) 100000))) (fun (_ : Unit) => []) := by
  refine CTi_of cX3_command 7 (some .int) (by decide) rfl (Nat.le_of_ble_eq_true rfl) ?_
  intro p e s m args below meth c A hx hb hr hml hown hlocks hin hts hA hX hK hP hD ls hl
  have hown : s.vm.findClass RX3 = some m.cls := hown
  have hS : va_S A s.heap s.heap [] := va_S.rf
  have hl : lv_has ls 7 [(0, .int 3), (1, .long w9), (3, .int 0)] := hl
  refine lv_lload_n hx hb dX3_command_0 rfl (lv_at hl 1 rfl) ?_
  refine lv_lstore (lv' := [(4, .long w9), (0, .int 3), (1, .long w9), (3, .int 0)]) hx hb dX3_command_1 hl (by decide) rfl (fun ls hl => ?_)
  refine lv_iload_n hx hb dX3_command_3 rfl (lv_at hl 3 rfl) ?_
  refine lv_iconst (v := 1) hx hb dX3_command_4 (by decide) ?_
  refine k_iadd (v := 1) hx hb dX3_command_5 (by decide) ?_
  refine lv_istore (lv' := [(6, .int 1), (4, .long w9), (0, .int 3), (1, .long w9), (3, .int 0)]) hx hb dX3_command_6 hl (by decide) rfl (fun ls hl => ?_)
  refine lv_iload hx hb dX3_command_8 (lv_at hl 0 rfl) ?_
  refine lv_iload_n hx hb dX3_command_10 rfl (lv_at hl 2 rfl) ?_
  refine lv_icmp_ge (tgt := 28) hx hb dX3_command_11 (by decide) (fun c_1 => ?_) (fun c_1 => ?_)
  · exact absurd c_1 (by decide)
  · skip
    refine lv_lload hx hb dX3_command_14 (lv_at hl 1 rfl) ?_
    refine lv_ldc2 hx hb hown (hts (Cond.constantLong RX3 9 (100000)) (List.mem_of_getElem? (i := 1) rfl)) dX3_command_16 ?_
    refine lv_ldiv hx hb dX3_command_19 (by decide) ?_
    refine lv_lstore (lv' := [(4, .long (w9 / 100000)), (6, .int 1), (0, .int 3), (1, .long w9), (3, .int 0)]) hx hb dX3_command_20 hl (by decide) rfl (fun ls hl => ?_)
    refine lv_iinc (v := 2) (lv' := [(6, .int 2), (4, .long (w9 / 100000)), (0, .int 3), (1, .long w9), (3, .int 0)]) hx hb dX3_command_22 hl (k := 1) rfl (by decide) (by decide) rfl (fun ls hl => ?_)
    refine lv_goto (tgt := 8) hx hb dX3_command_25 (by decide) ?_
    refine lv_iload hx hb dX3_command_8 (lv_at hl 0 rfl) ?_
    refine lv_iload_n hx hb dX3_command_10 rfl (lv_at hl 2 rfl) ?_
    refine lv_icmp_ge (tgt := 28) hx hb dX3_command_11 (by decide) (fun c_2 => ?_) (fun c_2 => ?_)
    · exact absurd c_2 (by decide)
    · skip
      refine lv_lload hx hb dX3_command_14 (lv_at hl 1 rfl) ?_
      refine lv_ldc2 hx hb hown (hts (Cond.constantLong RX3 9 (100000)) (List.mem_of_getElem? (i := 1) rfl)) dX3_command_16 ?_
      refine lv_ldiv hx hb dX3_command_19 (by decide) ?_
      refine lv_lstore (lv' := [(4, .long ((w9 / 100000) / 100000)), (6, .int 2), (0, .int 3), (1, .long w9), (3, .int 0)]) hx hb dX3_command_20 hl (by decide) rfl (fun ls hl => ?_)
      refine lv_iinc (v := 3) (lv' := [(6, .int 3), (4, .long ((w9 / 100000) / 100000)), (0, .int 3), (1, .long w9), (3, .int 0)]) hx hb dX3_command_22 hl (k := 1) rfl (by decide) (by decide) rfl (fun ls hl => ?_)
      refine lv_goto (tgt := 8) hx hb dX3_command_25 (by decide) ?_
      refine lv_iload hx hb dX3_command_8 (lv_at hl 0 rfl) ?_
      refine lv_iload_n hx hb dX3_command_10 rfl (lv_at hl 2 rfl) ?_
      refine lv_icmp_ge (tgt := 28) hx hb dX3_command_11 (by decide) (fun c_3 => ?_) (fun c_3 => ?_)
      · skip
        refine lv_lload hx hb dX3_command_28 (lv_at hl 1 rfl) ?_
        refine lv_ldc2 hx hb hown (hts (Cond.constantLong RX3 9 (100000)) (List.mem_of_getElem? (i := 1) rfl)) dX3_command_30 ?_
        refine lv_lrem hx hb dX3_command_33 (by decide) ?_
        refine lv_l2i (v := (Int64.toInt32 (lrem64 ((w9 / 100000) / 100000) 100000))) hx hb dX3_command_34 rfl ?_
        have hP : va_P D vwCl (fl []) s.heap := hP
        have hD : va_D A (fl []) := hD
        exact end_i (bs' := (fun (_ : Unit) => [])) () hx hb hr hlocks hP hD hS (by first | rfl | decide | simp [c_1, c_2, c_3]) (Nat.le_of_ble_eq_true rfl) (Nat.le_of_ble_eq_true rfl) dX3_command_35
      · exact absurd (by decide) c_3
set_option maxHeartbeats 4000000 in
set_option maxRecDepth 100000 in
theorem c_X3_command31 (l : Launch) (D : va_G) (ty : Nat → ClassId) (w9 : Int64) : CTi l yX3_command wsX3_command ({ frames := 0, cells := 0, slots := 0, locals := 0 }) D ty [.int 3, .long w9, .int 1] [] (fun (RET : Int32) (_ : Unit) => RET = (Int64.toInt32 (lrem64 (w9 / 100000) 100000))) (fun (_ : Unit) => []) := by
  refine CTi_of cX3_command 7 (some .int) (by decide) rfl (Nat.le_of_ble_eq_true rfl) ?_
  intro p e s m args below meth c A hx hb hr hml hown hlocks hin hts hA hX hK hP hD ls hl
  have hown : s.vm.findClass RX3 = some m.cls := hown
  have hS : va_S A s.heap s.heap [] := va_S.rf
  have hl : lv_has ls 7 [(0, .int 3), (1, .long w9), (3, .int 1)] := hl
  refine lv_lload_n hx hb dX3_command_0 rfl (lv_at hl 1 rfl) ?_
  refine lv_lstore (lv' := [(4, .long w9), (0, .int 3), (1, .long w9), (3, .int 1)]) hx hb dX3_command_1 hl (by decide) rfl (fun ls hl => ?_)
  refine lv_iload_n hx hb dX3_command_3 rfl (lv_at hl 3 rfl) ?_
  refine lv_iconst (v := 1) hx hb dX3_command_4 (by decide) ?_
  refine k_iadd (v := 2) hx hb dX3_command_5 (by decide) ?_
  refine lv_istore (lv' := [(6, .int 2), (4, .long w9), (0, .int 3), (1, .long w9), (3, .int 1)]) hx hb dX3_command_6 hl (by decide) rfl (fun ls hl => ?_)
  refine lv_iload hx hb dX3_command_8 (lv_at hl 0 rfl) ?_
  refine lv_iload_n hx hb dX3_command_10 rfl (lv_at hl 2 rfl) ?_
  refine lv_icmp_ge (tgt := 28) hx hb dX3_command_11 (by decide) (fun c_1 => ?_) (fun c_1 => ?_)
  · exact absurd c_1 (by decide)
  · skip
    refine lv_lload hx hb dX3_command_14 (lv_at hl 1 rfl) ?_
    refine lv_ldc2 hx hb hown (hts (Cond.constantLong RX3 9 (100000)) (List.mem_of_getElem? (i := 1) rfl)) dX3_command_16 ?_
    refine lv_ldiv hx hb dX3_command_19 (by decide) ?_
    refine lv_lstore (lv' := [(4, .long (w9 / 100000)), (6, .int 2), (0, .int 3), (1, .long w9), (3, .int 1)]) hx hb dX3_command_20 hl (by decide) rfl (fun ls hl => ?_)
    refine lv_iinc (v := 3) (lv' := [(6, .int 3), (4, .long (w9 / 100000)), (0, .int 3), (1, .long w9), (3, .int 1)]) hx hb dX3_command_22 hl (k := 1) rfl (by decide) (by decide) rfl (fun ls hl => ?_)
    refine lv_goto (tgt := 8) hx hb dX3_command_25 (by decide) ?_
    refine lv_iload hx hb dX3_command_8 (lv_at hl 0 rfl) ?_
    refine lv_iload_n hx hb dX3_command_10 rfl (lv_at hl 2 rfl) ?_
    refine lv_icmp_ge (tgt := 28) hx hb dX3_command_11 (by decide) (fun c_2 => ?_) (fun c_2 => ?_)
    · skip
      refine lv_lload hx hb dX3_command_28 (lv_at hl 1 rfl) ?_
      refine lv_ldc2 hx hb hown (hts (Cond.constantLong RX3 9 (100000)) (List.mem_of_getElem? (i := 1) rfl)) dX3_command_30 ?_
      refine lv_lrem hx hb dX3_command_33 (by decide) ?_
      refine lv_l2i (v := (Int64.toInt32 (lrem64 (w9 / 100000) 100000))) hx hb dX3_command_34 rfl ?_
      have hP : va_P D vwCl (fl []) s.heap := hP
      have hD : va_D A (fl []) := hD
      exact end_i (bs' := (fun (_ : Unit) => [])) () hx hb hr hlocks hP hD hS (by first | rfl | decide | simp [c_1, c_2]) (Nat.le_of_ble_eq_true rfl) (Nat.le_of_ble_eq_true rfl) dX3_command_35
    · exact absurd (by decide) c_2
set_option maxHeartbeats 4000000 in
set_option maxRecDepth 100000 in
theorem c_X3_command32 (l : Launch) (D : va_G) (ty : Nat → ClassId) (w9 : Int64) : CTi l yX3_command wsX3_command ({ frames := 0, cells := 0, slots := 0, locals := 0 }) D ty [.int 3, .long w9, .int 2] [] (fun (RET : Int32) (_ : Unit) => RET = (Int64.toInt32 (lrem64 w9 100000))) (fun (_ : Unit) => []) := by
  refine CTi_of cX3_command 7 (some .int) (by decide) rfl (Nat.le_of_ble_eq_true rfl) ?_
  intro p e s m args below meth c A hx hb hr hml hown hlocks hin hts hA hX hK hP hD ls hl
  have hown : s.vm.findClass RX3 = some m.cls := hown
  have hS : va_S A s.heap s.heap [] := va_S.rf
  have hl : lv_has ls 7 [(0, .int 3), (1, .long w9), (3, .int 2)] := hl
  refine lv_lload_n hx hb dX3_command_0 rfl (lv_at hl 1 rfl) ?_
  refine lv_lstore (lv' := [(4, .long w9), (0, .int 3), (1, .long w9), (3, .int 2)]) hx hb dX3_command_1 hl (by decide) rfl (fun ls hl => ?_)
  refine lv_iload_n hx hb dX3_command_3 rfl (lv_at hl 3 rfl) ?_
  refine lv_iconst (v := 1) hx hb dX3_command_4 (by decide) ?_
  refine k_iadd (v := 3) hx hb dX3_command_5 (by decide) ?_
  refine lv_istore (lv' := [(6, .int 3), (4, .long w9), (0, .int 3), (1, .long w9), (3, .int 2)]) hx hb dX3_command_6 hl (by decide) rfl (fun ls hl => ?_)
  refine lv_iload hx hb dX3_command_8 (lv_at hl 0 rfl) ?_
  refine lv_iload_n hx hb dX3_command_10 rfl (lv_at hl 2 rfl) ?_
  refine lv_icmp_ge (tgt := 28) hx hb dX3_command_11 (by decide) (fun c_1 => ?_) (fun c_1 => ?_)
  · skip
    refine lv_lload hx hb dX3_command_28 (lv_at hl 1 rfl) ?_
    refine lv_ldc2 hx hb hown (hts (Cond.constantLong RX3 9 (100000)) (List.mem_of_getElem? (i := 1) rfl)) dX3_command_30 ?_
    refine lv_lrem hx hb dX3_command_33 (by decide) ?_
    refine lv_l2i (v := (Int64.toInt32 (lrem64 w9 100000))) hx hb dX3_command_34 rfl ?_
    have hP : va_P D vwCl (fl []) s.heap := hP
    have hD : va_D A (fl []) := hD
    exact end_i (bs' := (fun (_ : Unit) => [])) () hx hb hr hlocks hP hD hS (by first | rfl | decide | simp [c_1]) (Nat.le_of_ble_eq_true rfl) (Nat.le_of_ble_eq_true rfl) dX3_command_35
  · exact absurd (by decide) c_1
