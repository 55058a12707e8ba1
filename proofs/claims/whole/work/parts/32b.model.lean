set_option maxHeartbeats 4000000 in
set_option maxRecDepth 100000 in
theorem c_X10_in (l : Launch) (D : va_G) (ty : Nat → ClassId) (v lo hi : Int64) : CTi l yX10_in wsX10_in ({ frames := 0, cells := 0, slots := 0, locals := 0 }) D ty [.long v, .long lo, .long hi] [] (fun (RET : Int32) (_ : Unit) => RET = (inv v lo hi)) (fun (_ : Unit) => []) := by
  refine CTi_of cX10_in 6 (some .boolean) (by decide) rfl (Nat.le_of_ble_eq_true rfl) ?_
  intro p e s m args below meth c A hx hb hr hml hown hlocks hin hts hA hX hK hP hD ls hl
  have hown : s.vm.findClass RX10 = some m.cls := hown
  have hS : va_S A s.heap s.heap [] := va_S.rf
  have hl : lv_has ls 6 [(0, .long v), (2, .long lo), (4, .long hi)] := hl
  refine lv_lload_n hx hb dX10_in_0 rfl (lv_at hl 0 rfl) ?_
  refine lv_lload_n hx hb dX10_in_1 rfl (lv_at hl 1 rfl) ?_
  refine W.lcmp hx hb dX10_in_2 ?_
  refine lv_if_lt (tgt := 17) hx hb dX10_in_3 (by decide) (fun c_1 => ?_) (fun c_1 => ?_)
  · skip
    refine lv_iconst (v := 0) hx hb dX10_in_17 (by decide) ?_
    have hP : va_P D vwCl (fl []) s.heap := hP
    have hD : va_D A (fl []) := hD
    exact end_z (bs' := (fun (_ : Unit) => [])) () hx hb hr hlocks rfl hP hD hS (by unfold inv; rw [if_pos c_1]) (Nat.le_of_ble_eq_true rfl) (Nat.le_of_ble_eq_true rfl) dX10_in_18
  · skip
    refine lv_lload_n hx hb dX10_in_6 rfl (lv_at hl 0 rfl) ?_
    refine lv_lload hx hb dX10_in_7 (lv_at hl 2 rfl) ?_
    refine W.lcmp hx hb dX10_in_9 ?_
    refine lv_if_gt (tgt := 17) hx hb dX10_in_10 (by decide) (fun c_2 => ?_) (fun c_2 => ?_)
    · skip
      refine lv_iconst (v := 0) hx hb dX10_in_17 (by decide) ?_
      have hP : va_P D vwCl (fl []) s.heap := hP
      have hD : va_D A (fl []) := hD
      exact end_z (bs' := (fun (_ : Unit) => [])) () hx hb hr hlocks rfl hP hD hS (by unfold inv; rw [if_neg c_1]; rw [if_pos c_2]) (Nat.le_of_ble_eq_true rfl) (Nat.le_of_ble_eq_true rfl) dX10_in_18
    · skip
      refine lv_iconst (v := 1) hx hb dX10_in_13 (by decide) ?_
      refine lv_goto (tgt := 18) hx hb dX10_in_14 (by decide) ?_
      have hP : va_P D vwCl (fl []) s.heap := hP
      have hD : va_D A (fl []) := hD
      exact end_z (bs' := (fun (_ : Unit) => [])) () hx hb hr hlocks rfl hP hD hS (by unfold inv; rw [if_neg c_1]; rw [if_neg c_2]) (Nat.le_of_ble_eq_true rfl) (Nat.le_of_ble_eq_true rfl) dX10_in_18
set_option maxHeartbeats 4000000 in
set_option maxRecDepth 100000 in
theorem c_X10_isRegister (l : Launch) (D : va_G) (ty : Nat → ClassId) (v : Int32) : CTi l yX10_isRegister wsX10_isRegister ({ frames := 1, cells := 0, slots := 0, locals := 25 }) D ty [.int v] [] (fun (RET : Int32) (_ : Unit) => RET = (inv (Int32.toInt64 v) 0 7)) (fun (_ : Unit) => []) := by
  refine CTi_of cX10_isRegister 1 (some .boolean) (by decide) rfl (Nat.le_of_ble_eq_true rfl) ?_
  intro p e s m args below meth c A hx hb hr hml hown hlocks hin hts hA hX hK hP hD ls hl
  have hown : s.vm.findClass RX10 = some m.cls := hown
  have hS : va_S A s.heap s.heap [] := va_S.rf
  have hl : lv_has ls 1 [(0, .int v)] := hl
  refine lv_iload_n hx hb dX10_isRegister_0 rfl (lv_at hl 0 rfl) ?_
  refine lv_i2l (v := (Int32.toInt64 v)) hx hb dX10_isRegister_1 rfl ?_
  refine lv_lconst (v := 0) hx hb dX10_isRegister_2 (by decide) ?_
  refine lv_ldc2 hx hb hown (hts (Cond.constantLong RX10 140 (7)) (List.mem_of_getElem? (i := 1) rfl)) dX10_isRegister_3 ?_
  refine cSi (As := [.long (Int32.toInt64 v), .long 0, .long 7]) (rest := []) ⟨hx, hb, hml, hown, hts⟩ (c_X10_in l D ty (Int32.toInt64 v) 0 7) (va_cwS 3 hts gX10_isRegister_X10_in rfl rfl rfl (by decide +kernel) ⟨Nat.le_of_ble_eq_true rfl, Nat.le_of_ble_eq_true rfl⟩) hK hX hP hD hS hA (pk (bs := []) (bsc := []) (bsr := []) [] [] 0 rfl (by decide +kernel) rfl rfl) rfl hl.1 rfl (Nat.le_of_ble_eq_true rfl) dX10_isRegister_6 ⟨Nat.le_of_ble_eq_true rfl, Nat.le_of_ble_eq_true rfl⟩ (fun r_2 u_1 h_3 H locs hP hD hS => ?_)
  have h_3 : r_2 = (inv (Int32.toInt64 v) 0 7) := h_3
  subst h_3
  have hP : va_P D vwCl (fl []) H := P_perm (po (bs := []) [] 0 rfl (by decide +kernel) rfl) hP
  have hD : va_D A (fl []) := D_perm (po (bs := []) [] 0 rfl (by decide +kernel) rfl) hD
  have hP : va_P D vwCl (fl []) H := hP
  have hD : va_D A (fl []) := hD
  exact end_z (bs' := (fun (_ : Unit) => [])) () hx hb hr hlocks (inv_nar _ _ _) hP hD hS rfl (Nat.le_of_ble_eq_true rfl) (Nat.le_of_ble_eq_true rfl) dX10_isRegister_9
set_option maxHeartbeats 4000000 in
set_option maxRecDepth 100000 in
theorem c_X10_isPin (l : Launch) (D : va_G) (ty : Nat → ClassId) (v : Int32) : CTi l yX10_isPin wsX10_isPin ({ frames := 1, cells := 0, slots := 0, locals := 25 }) D ty [.int v] [] (fun (RET : Int32) (_ : Unit) => RET = (inv (Int32.toInt64 v) 0 2)) (fun (_ : Unit) => []) := by
  refine CTi_of cX10_isPin 1 (some .boolean) (by decide) rfl (Nat.le_of_ble_eq_true rfl) ?_
  intro p e s m args below meth c A hx hb hr hml hown hlocks hin hts hA hX hK hP hD ls hl
  have hown : s.vm.findClass RX10 = some m.cls := hown
  have hS : va_S A s.heap s.heap [] := va_S.rf
  have hl : lv_has ls 1 [(0, .int v)] := hl
  refine lv_iload_n hx hb dX10_isPin_0 rfl (lv_at hl 0 rfl) ?_
  refine lv_i2l (v := (Int32.toInt64 v)) hx hb dX10_isPin_1 rfl ?_
  refine lv_lconst (v := 0) hx hb dX10_isPin_2 (by decide) ?_
  refine lv_ldc2 hx hb hown (hts (Cond.constantLong RX10 142 (2)) (List.mem_of_getElem? (i := 1) rfl)) dX10_isPin_3 ?_
  refine cSi (As := [.long (Int32.toInt64 v), .long 0, .long 2]) (rest := []) ⟨hx, hb, hml, hown, hts⟩ (c_X10_in l D ty (Int32.toInt64 v) 0 2) (va_cwS 3 hts gX10_isPin_X10_in rfl rfl rfl (by decide +kernel) ⟨Nat.le_of_ble_eq_true rfl, Nat.le_of_ble_eq_true rfl⟩) hK hX hP hD hS hA (pk (bs := []) (bsc := []) (bsr := []) [] [] 0 rfl (by decide +kernel) rfl rfl) rfl hl.1 rfl (Nat.le_of_ble_eq_true rfl) dX10_isPin_6 ⟨Nat.le_of_ble_eq_true rfl, Nat.le_of_ble_eq_true rfl⟩ (fun r_2 u_1 h_3 H locs hP hD hS => ?_)
  have h_3 : r_2 = (inv (Int32.toInt64 v) 0 2) := h_3
  subst h_3
  have hP : va_P D vwCl (fl []) H := P_perm (po (bs := []) [] 0 rfl (by decide +kernel) rfl) hP
  have hD : va_D A (fl []) := D_perm (po (bs := []) [] 0 rfl (by decide +kernel) rfl) hD
  have hP : va_P D vwCl (fl []) H := hP
  have hD : va_D A (fl []) := hD
  exact end_z (bs' := (fun (_ : Unit) => [])) () hx hb hr hlocks (inv_nar _ _ _) hP hD hS rfl (Nat.le_of_ble_eq_true rfl) (Nat.le_of_ble_eq_true rfl) dX10_isPin_9
set_option maxHeartbeats 4000000 in
set_option maxRecDepth 100000 in
theorem c_X10_isAlarm (l : Launch) (D : va_G) (ty : Nat → ClassId) (v : Int32) : CTi l yX10_isAlarm wsX10_isAlarm ({ frames := 1, cells := 0, slots := 0, locals := 25 }) D ty [.int v] [] (fun (RET : Int32) (_ : Unit) => RET = (inv (Int32.toInt64 v) 0 3)) (fun (_ : Unit) => []) := by
  refine CTi_of cX10_isAlarm 1 (some .boolean) (by decide) rfl (Nat.le_of_ble_eq_true rfl) ?_
  intro p e s m args below meth c A hx hb hr hml hown hlocks hin hts hA hX hK hP hD ls hl
  have hown : s.vm.findClass RX10 = some m.cls := hown
  have hS : va_S A s.heap s.heap [] := va_S.rf
  have hl : lv_has ls 1 [(0, .int v)] := hl
  refine lv_iload_n hx hb dX10_isAlarm_0 rfl (lv_at hl 0 rfl) ?_
  refine lv_i2l (v := (Int32.toInt64 v)) hx hb dX10_isAlarm_1 rfl ?_
  refine lv_lconst (v := 0) hx hb dX10_isAlarm_2 (by decide) ?_
  refine lv_ldc2 hx hb hown (hts (Cond.constantLong RX10 144 (3)) (List.mem_of_getElem? (i := 1) rfl)) dX10_isAlarm_3 ?_
  refine cSi (As := [.long (Int32.toInt64 v), .long 0, .long 3]) (rest := []) ⟨hx, hb, hml, hown, hts⟩ (c_X10_in l D ty (Int32.toInt64 v) 0 3) (va_cwS 3 hts gX10_isAlarm_X10_in rfl rfl rfl (by decide +kernel) ⟨Nat.le_of_ble_eq_true rfl, Nat.le_of_ble_eq_true rfl⟩) hK hX hP hD hS hA (pk (bs := []) (bsc := []) (bsr := []) [] [] 0 rfl (by decide +kernel) rfl rfl) rfl hl.1 rfl (Nat.le_of_ble_eq_true rfl) dX10_isAlarm_6 ⟨Nat.le_of_ble_eq_true rfl, Nat.le_of_ble_eq_true rfl⟩ (fun r_2 u_1 h_3 H locs hP hD hS => ?_)
  have h_3 : r_2 = (inv (Int32.toInt64 v) 0 3) := h_3
  subst h_3
  have hP : va_P D vwCl (fl []) H := P_perm (po (bs := []) [] 0 rfl (by decide +kernel) rfl) hP
  have hD : va_D A (fl []) := D_perm (po (bs := []) [] 0 rfl (by decide +kernel) rfl) hD
  have hP : va_P D vwCl (fl []) H := hP
  have hD : va_D A (fl []) := hD
  exact end_z (bs' := (fun (_ : Unit) => [])) () hx hb hr hlocks (inv_nar _ _ _) hP hD hS rfl (Nat.le_of_ble_eq_true rfl) (Nat.le_of_ble_eq_true rfl) dX10_isAlarm_9
set_option maxHeartbeats 4000000 in
set_option maxRecDepth 100000 in
theorem c_X10_thrown (l : Launch) (D : va_G) (ty : Nat → ClassId) (b : Nat → Nat) (rf tn sp ac : Int32) : CTi l yX10_thrown wsX10_thrown ({ frames := 0, cells := 0, slots := 0, locals := 0 }) D ty [.ref (b 0)] [[ob (b 0) 9 [.int rf, .ref (b 1), .int tn, .int sp, .ref (b 2), .ref (b 3), .ref (b 4), .ref (b 5), .int ac, .ref (b 6), .ref (b 7), .ref (b 8), .ref (b 9), .ref (b 10), .ref (b 11)]]] (fun (RET : Int32) (_ : Unit) => RET = rf) (fun (_ : Unit) => [[ob (b 0) 9 [.int rf, .ref (b 1), .int tn, .int sp, .ref (b 2), .ref (b 3), .ref (b 4), .ref (b 5), .int ac, .ref (b 6), .ref (b 7), .ref (b 8), .ref (b 9), .ref (b 10), .ref (b 11)]]]) := by
  refine CTi_of cX10_thrown 1 (some .int) (by decide) rfl (Nat.le_of_ble_eq_true rfl) ?_
  intro p e s m args below meth c A hx hb hr hml hown hlocks hin hts hA hX hK hP hD ls hl
  have hown : s.vm.findClass RX10 = some m.cls := hown
  have hS : va_S A s.heap s.heap [] := va_S.rf
  have i_X10 : ∀ z ∈ wsX100, z ∈ wsX10_thrown := fun z h => List.mem_cons_of_mem _ (List.mem_append_right _ h)
  have hl : lv_has ls 1 [(0, .ref (b 0))] := hl
  refine lv_aload_n hx hb dX10_thrown_0 rfl (lv_at hl 0 rfl) ?_
  refine va_get (D := D) (ci := 9) (v := .int rf) (C := RX10) (T := TX10) (N := 15) hx hb hts i_X10 hown hK hP 0 rfl rfl 0 (by decide) (hts (Cond.fieldLink RX10 49 "BrownClockModel" "refusal" "I") (List.mem_of_getElem? (i := 1) rfl)) (fun _ h9 => h9) rfl dX10_thrown_1 ?_
  have hP : va_P D vwCl (fl [[ob (b 0) 9 [.int rf, .ref (b 1), .int tn, .int sp, .ref (b 2), .ref (b 3), .ref (b 4), .ref (b 5), .int ac, .ref (b 6), .ref (b 7), .ref (b 8), .ref (b 9), .ref (b 10), .ref (b 11)]]]) s.heap := hP
  have hD : va_D A (fl [[ob (b 0) 9 [.int rf, .ref (b 1), .int tn, .int sp, .ref (b 2), .ref (b 3), .ref (b 4), .ref (b 5), .int ac, .ref (b 6), .ref (b 7), .ref (b 8), .ref (b 9), .ref (b 10), .ref (b 11)]]]) := hD
  exact end_i (bs' := (fun (_ : Unit) => [[ob (b 0) 9 [.int rf, .ref (b 1), .int tn, .int sp, .ref (b 2), .ref (b 3), .ref (b 4), .ref (b 5), .int ac, .ref (b 6), .ref (b 7), .ref (b 8), .ref (b 9), .ref (b 10), .ref (b 11)]]])) () hx hb hr hlocks hP hD hS (by first | rfl | decide | simp []) (Nat.le_of_ble_eq_true rfl) (Nat.le_of_ble_eq_true rfl) dX10_thrown_4
set_option maxHeartbeats 4000000 in
set_option maxRecDepth 100000 in
theorem c_X10_refused0 (l : Launch) (D : va_G) (ty : Nat → ClassId) (b : Nat → Nat) (rf tn sp ac : Int32) : CTi l yX10_refused wsX10_refused ({ frames := 0, cells := 0, slots := 0, locals := 0 }) D ty [.ref (b 0), .int 0] [[ob (b 0) 9 [.int rf, .ref (b 1), .int tn, .int sp, .ref (b 2), .ref (b 3), .ref (b 4), .ref (b 5), .int ac, .ref (b 6), .ref (b 7), .ref (b 8), .ref (b 9), .ref (b 10), .ref (b 11)]]] (fun (RET : Int32) (_ : Unit) => RET = 0) (fun (_ : Unit) => [[ob (b 0) 9 [.int 0, .ref (b 1), .int tn, .int sp, .ref (b 2), .ref (b 3), .ref (b 4), .ref (b 5), .int ac, .ref (b 6), .ref (b 7), .ref (b 8), .ref (b 9), .ref (b 10), .ref (b 11)]]]) := by
  refine CTi_of cX10_refused 2 (some .boolean) (by decide) rfl (Nat.le_of_ble_eq_true rfl) ?_
  intro p e s m args below meth c A hx hb hr hml hown hlocks hin hts hA hX hK hP hD ls hl
  have hown : s.vm.findClass RX10 = some m.cls := hown
  have hS : va_S A s.heap s.heap [] := va_S.rf
  have i_X10 : ∀ z ∈ wsX100, z ∈ wsX10_refused := fun z h => List.mem_cons_of_mem _ (List.mem_append_right _ h)
  have hl : lv_has ls 2 [(0, .ref (b 0)), (1, .int 0)] := hl
  refine lv_aload_n hx hb dX10_refused_0 rfl (lv_at hl 0 rfl) ?_
  refine lv_iload_n hx hb dX10_refused_1 rfl (lv_at hl 1 rfl) ?_
  refine va_put (D := D) (ci := 9) (v := .int 0) (ty := .int) (C := RX10) (T := TX10) (N := 15) hx hb hts i_X10 tyX10 tyX10_ok nmX10 hown hK hP hD hS 0 rfl rfl 0 (by decide) (hts (Cond.fieldLink RX10 49 "BrownClockModel" "refusal" "I") (List.mem_of_getElem? (i := 1) rfl)) (fun _ h9 => h9) rfl (by decide +kernel) rfl rfl (Nat.le_of_ble_eq_true rfl) dX10_refused_2 (fun H locs hP hD hS => ?_)
  have hP : va_P D vwCl (fl [[ob (b 0) 9 [.int 0, .ref (b 1), .int tn, .int sp, .ref (b 2), .ref (b 3), .ref (b 4), .ref (b 5), .int ac, .ref (b 6), .ref (b 7), .ref (b 8), .ref (b 9), .ref (b 10), .ref (b 11)]]]) H := hP
  have hD : va_D A (fl [[ob (b 0) 9 [.int 0, .ref (b 1), .int tn, .int sp, .ref (b 2), .ref (b 3), .ref (b 4), .ref (b 5), .int ac, .ref (b 6), .ref (b 7), .ref (b 8), .ref (b 9), .ref (b 10), .ref (b 11)]]]) := hD
  refine lv_iload_n hx hb dX10_refused_5 rfl (lv_at hl 1 rfl) ?_
  refine lv_if_le (tgt := 13) hx hb dX10_refused_6 (by decide) (fun c_1 => ?_) (fun c_1 => ?_)
  · skip
    refine lv_iconst (v := 0) hx hb dX10_refused_13 (by decide) ?_
    have hP : va_P D vwCl (fl [[ob (b 0) 9 [.int 0, .ref (b 1), .int tn, .int sp, .ref (b 2), .ref (b 3), .ref (b 4), .ref (b 5), .int ac, .ref (b 6), .ref (b 7), .ref (b 8), .ref (b 9), .ref (b 10), .ref (b 11)]]]) H := hP
    have hD : va_D A (fl [[ob (b 0) 9 [.int 0, .ref (b 1), .int tn, .int sp, .ref (b 2), .ref (b 3), .ref (b 4), .ref (b 5), .int ac, .ref (b 6), .ref (b 7), .ref (b 8), .ref (b 9), .ref (b 10), .ref (b 11)]]]) := hD
    exact end_z (bs' := (fun (_ : Unit) => [[ob (b 0) 9 [.int 0, .ref (b 1), .int tn, .int sp, .ref (b 2), .ref (b 3), .ref (b 4), .ref (b 5), .int ac, .ref (b 6), .ref (b 7), .ref (b 8), .ref (b 9), .ref (b 10), .ref (b 11)]]])) () hx hb hr hlocks rfl hP hD hS (by first | rfl | decide | simp [c_1]) (Nat.le_of_ble_eq_true rfl) (Nat.le_of_ble_eq_true rfl) dX10_refused_14
  · exact absurd (by decide) c_1
set_option maxHeartbeats 4000000 in
set_option maxRecDepth 100000 in
theorem c_X10_refused1 (l : Launch) (D : va_G) (ty : Nat → ClassId) (b : Nat → Nat) (rf tn sp ac : Int32) (w9 : Int32) (hw : w9 > 0) : CTi l yX10_refused wsX10_refused ({ frames := 0, cells := 0, slots := 0, locals := 0 }) D ty [.ref (b 0), .int w9] [[ob (b 0) 9 [.int rf, .ref (b 1), .int tn, .int sp, .ref (b 2), .ref (b 3), .ref (b 4), .ref (b 5), .int ac, .ref (b 6), .ref (b 7), .ref (b 8), .ref (b 9), .ref (b 10), .ref (b 11)]]] (fun (RET : Int32) (_ : Unit) => RET = 1) (fun (_ : Unit) => [[ob (b 0) 9 [.int w9, .ref (b 1), .int tn, .int sp, .ref (b 2), .ref (b 3), .ref (b 4), .ref (b 5), .int ac, .ref (b 6), .ref (b 7), .ref (b 8), .ref (b 9), .ref (b 10), .ref (b 11)]]]) := by
  refine CTi_of cX10_refused 2 (some .boolean) (by decide) rfl (Nat.le_of_ble_eq_true rfl) ?_
  intro p e s m args below meth c A hx hb hr hml hown hlocks hin hts hA hX hK hP hD ls hl
  have hown : s.vm.findClass RX10 = some m.cls := hown
  have hS : va_S A s.heap s.heap [] := va_S.rf
  have i_X10 : ∀ z ∈ wsX100, z ∈ wsX10_refused := fun z h => List.mem_cons_of_mem _ (List.mem_append_right _ h)
  have hl : lv_has ls 2 [(0, .ref (b 0)), (1, .int w9)] := hl
  refine lv_aload_n hx hb dX10_refused_0 rfl (lv_at hl 0 rfl) ?_
  refine lv_iload_n hx hb dX10_refused_1 rfl (lv_at hl 1 rfl) ?_
  refine va_put (D := D) (ci := 9) (v := .int w9) (ty := .int) (C := RX10) (T := TX10) (N := 15) hx hb hts i_X10 tyX10 tyX10_ok nmX10 hown hK hP hD hS 0 rfl rfl 0 (by decide) (hts (Cond.fieldLink RX10 49 "BrownClockModel" "refusal" "I") (List.mem_of_getElem? (i := 1) rfl)) (fun _ h9 => h9) rfl (by decide +kernel) rfl rfl (Nat.le_of_ble_eq_true rfl) dX10_refused_2 (fun H locs hP hD hS => ?_)
  have hP : va_P D vwCl (fl [[ob (b 0) 9 [.int w9, .ref (b 1), .int tn, .int sp, .ref (b 2), .ref (b 3), .ref (b 4), .ref (b 5), .int ac, .ref (b 6), .ref (b 7), .ref (b 8), .ref (b 9), .ref (b 10), .ref (b 11)]]]) H := hP
  have hD : va_D A (fl [[ob (b 0) 9 [.int w9, .ref (b 1), .int tn, .int sp, .ref (b 2), .ref (b 3), .ref (b 4), .ref (b 5), .int ac, .ref (b 6), .ref (b 7), .ref (b 8), .ref (b 9), .ref (b 10), .ref (b 11)]]]) := hD
  refine lv_iload_n hx hb dX10_refused_5 rfl (lv_at hl 1 rfl) ?_
  refine lv_if_le (tgt := 13) hx hb dX10_refused_6 (by decide) (fun c_1 => ?_) (fun c_1 => ?_)
  · first | exact absurd c_1 (fun q0 => absurd hw (Int32.not_lt.mpr q0)) | exact absurd (fun q0 => absurd hw (Int32.not_lt.mpr q0)) c_1
  · skip
    refine lv_iconst (v := 1) hx hb dX10_refused_9 (by decide) ?_
    refine lv_goto (tgt := 14) hx hb dX10_refused_10 (by decide) ?_
    have hP : va_P D vwCl (fl [[ob (b 0) 9 [.int w9, .ref (b 1), .int tn, .int sp, .ref (b 2), .ref (b 3), .ref (b 4), .ref (b 5), .int ac, .ref (b 6), .ref (b 7), .ref (b 8), .ref (b 9), .ref (b 10), .ref (b 11)]]]) H := hP
    have hD : va_D A (fl [[ob (b 0) 9 [.int w9, .ref (b 1), .int tn, .int sp, .ref (b 2), .ref (b 3), .ref (b 4), .ref (b 5), .int ac, .ref (b 6), .ref (b 7), .ref (b 8), .ref (b 9), .ref (b 10), .ref (b 11)]]]) := hD
    exact end_z (bs' := (fun (_ : Unit) => [[ob (b 0) 9 [.int w9, .ref (b 1), .int tn, .int sp, .ref (b 2), .ref (b 3), .ref (b 4), .ref (b 5), .int ac, .ref (b 6), .ref (b 7), .ref (b 8), .ref (b 9), .ref (b 10), .ref (b 11)]]])) () hx hb hr hlocks rfl hP hD hS (by first | rfl | decide | simp [c_1]) (Nat.le_of_ble_eq_true rfl) (Nat.le_of_ble_eq_true rfl) dX10_refused_14
