set_option maxHeartbeats 4000000 in
set_option maxRecDepth 100000 in
theorem c_X10_append (l : Launch) (D : va_G) (ty : Nat → ClassId) (b : Nat → Nat) (rf sp ac : Int32) (ln : Nat) (cd : Nat → Int32) (c9 : Int32) (hl6 : ln ≤ 60) (hc0 : inR c9 0 255) (hc1 : ln < 60) : CTi l yX10_append wsX10_append ({ frames := 1, cells := 0, slots := 0, locals := 25 }) D ty [.ref (b 0), .int c9] [[ob (b 0) 9 [.int rf, .ref (b 1), .int (nI ln), .int sp, .ref (b 2), .ref (b 3), .ref (b 4), .ref (b 5), .int ac, .ref (b 6), .ref (b 7), .ref (b 8), .ref (b 9), .ref (b 10), .ref (b 11)]], [ia ty (b 1) 60 cd]] (fun (RET : Int32) (_ : Unit) => RET = (nI (ln + 1))) (fun (_ : Unit) => [[ob (b 0) 9 [.int 0, .ref (b 1), .int (nI (ln + 1)), .int sp, .ref (b 2), .ref (b 3), .ref (b 4), .ref (b 5), .int ac, .ref (b 6), .ref (b 7), .ref (b 8), .ref (b 9), .ref (b 10), .ref (b 11)]], [ia ty (b 1) 60 (upd cd ln c9)]]) := by
  refine CTi_of cX10_append 2 (some .int) (by decide) rfl (Nat.le_of_ble_eq_true rfl) ?_
  intro p e s m args below meth c A hx hb hr hml hown hlocks hin hts hA hX hK hP hD ls hl
  have hown : s.vm.findClass RX10 = some m.cls := hown
  have hS : va_S A s.heap s.heap [] := va_S.rf
  have i_X10 : ∀ z ∈ wsX100, z ∈ wsX10_append := fun z h => List.mem_cons_of_mem _ (List.mem_append_right _ h)
  have hl : lv_has ls 2 [(0, .ref (b 0)), (1, .int c9)] := hl
  refine lv_aload_n hx hb dX10_append_0 rfl (lv_at hl 0 rfl) ?_
  refine lv_iload_n hx hb dX10_append_1 rfl (lv_at hl 1 rfl) ?_
  refine lv_i2l (v := (Int32.toInt64 c9)) hx hb dX10_append_2 rfl ?_
  refine lv_lconst (v := 0) hx hb dX10_append_3 (by decide) ?_
  refine lv_ldc2 hx hb hown (hts (Cond.constantLong RX10 89 (255)) (List.mem_of_getElem? (i := 1) rfl)) dX10_append_4 ?_
  refine cSi (As := [.long (Int32.toInt64 c9), .long 0, .long 255]) (rest := [.ref (b 0)]) ⟨hx, hb, hml, hown, hts⟩ (c_X10_in l D ty (Int32.toInt64 c9) 0 255) (va_cwS 3 hts gX10_append_X10_in rfl rfl rfl (by decide +kernel) ⟨Nat.le_of_ble_eq_true rfl, Nat.le_of_ble_eq_true rfl⟩) hK hX hP hD hS hA (pk (bs := [[ob (b 0) 9 [.int rf, .ref (b 1), .int (nI ln), .int sp, .ref (b 2), .ref (b 3), .ref (b 4), .ref (b 5), .int ac, .ref (b 6), .ref (b 7), .ref (b 8), .ref (b 9), .ref (b 10), .ref (b 11)]], [ia ty (b 1) 60 cd]]) (bsc := []) (bsr := [[ob (b 0) 9 [.int rf, .ref (b 1), .int (nI ln), .int sp, .ref (b 2), .ref (b 3), .ref (b 4), .ref (b 5), .int ac, .ref (b 6), .ref (b 7), .ref (b 8), .ref (b 9), .ref (b 10), .ref (b 11)]], [ia ty (b 1) 60 cd]]) [] [0, 1] 2 rfl (by decide +kernel) rfl rfl) rfl hl.1 rfl (Nat.le_of_ble_eq_true rfl) dX10_append_7 ⟨Nat.le_of_ble_eq_true rfl, Nat.le_of_ble_eq_true rfl⟩ (fun r_2 u_1 h_3 H locs hP hD hS => ?_)
  have h_3 : r_2 = (inv (Int32.toInt64 c9) 0 255) := h_3
  subst h_3
  have hP : va_P D vwCl (fl [[ob (b 0) 9 [.int rf, .ref (b 1), .int (nI ln), .int sp, .ref (b 2), .ref (b 3), .ref (b 4), .ref (b 5), .int ac, .ref (b 6), .ref (b 7), .ref (b 8), .ref (b 9), .ref (b 10), .ref (b 11)]], [ia ty (b 1) 60 cd]]) H := P_perm (po (bs := [[ob (b 0) 9 [.int rf, .ref (b 1), .int (nI ln), .int sp, .ref (b 2), .ref (b 3), .ref (b 4), .ref (b 5), .int ac, .ref (b 6), .ref (b 7), .ref (b 8), .ref (b 9), .ref (b 10), .ref (b 11)]], [ia ty (b 1) 60 cd]]) [0, 1] 2 rfl (by decide +kernel) rfl) hP
  have hD : va_D A (fl [[ob (b 0) 9 [.int rf, .ref (b 1), .int (nI ln), .int sp, .ref (b 2), .ref (b 3), .ref (b 4), .ref (b 5), .int ac, .ref (b 6), .ref (b 7), .ref (b 8), .ref (b 9), .ref (b 10), .ref (b 11)]], [ia ty (b 1) 60 cd]]) := D_perm (po (bs := [[ob (b 0) 9 [.int rf, .ref (b 1), .int (nI ln), .int sp, .ref (b 2), .ref (b 3), .ref (b 4), .ref (b 5), .int ac, .ref (b 6), .ref (b 7), .ref (b 8), .ref (b 9), .ref (b 10), .ref (b 11)]], [ia ty (b 1) 60 cd]]) [0, 1] 2 rfl (by decide +kernel) rfl) hD
  refine lv_if_ne (tgt := 17) hx hb dX10_append_10 (by decide) (fun c_4 => ?_) (fun c_4 => ?_)
  · skip
    refine lv_aload_n hx hb dX10_append_17 rfl (lv_at hl 0 rfl) ?_
    refine va_get (D := D) (ci := 9) (v := .int (nI ln)) (C := RX10) (T := TX10) (N := 15) hx hb hts i_X10 hown hK hP 0 rfl rfl 2 (by decide) (hts (Cond.fieldLink RX10 95 "BrownClockModel" "textSize" "I") (List.mem_of_getElem? (i := 2) rfl)) (fun _ h9 => h9) rfl dX10_append_18 ?_
    refine lv_bipush (v := 60) hx hb dX10_append_21 (by decide) ?_
    refine lv_icmp_ne (tgt := 30) hx hb dX10_append_23 (by decide) (fun c_5 => ?_) (fun c_5 => ?_)
    · skip
      refine lv_iconst (v := 0) hx hb dX10_append_30 (by decide) ?_
      refine cVi (As := [.int 0]) (rest := []) ⟨hx, hb, hml, hown, hts⟩ (c_X10_refused0 l D ty b rf (nI ln) sp ac) (cwV 1 hts gX10_append_X10_refused rfl rfl rfl (by decide +kernel) ⟨Nat.le_of_ble_eq_true rfl, Nat.le_of_ble_eq_true rfl⟩) hK hX hP hD hS hA (pk (bs := [[ob (b 0) 9 [.int rf, .ref (b 1), .int (nI ln), .int sp, .ref (b 2), .ref (b 3), .ref (b 4), .ref (b 5), .int ac, .ref (b 6), .ref (b 7), .ref (b 8), .ref (b 9), .ref (b 10), .ref (b 11)]], [ia ty (b 1) 60 cd]]) (bsc := [[ob (b 0) 9 [.int rf, .ref (b 1), .int (nI ln), .int sp, .ref (b 2), .ref (b 3), .ref (b 4), .ref (b 5), .int ac, .ref (b 6), .ref (b 7), .ref (b 8), .ref (b 9), .ref (b 10), .ref (b 11)]]]) (bsr := [[ia ty (b 1) 60 cd]]) [0] [1] 2 rfl (by decide +kernel) rfl rfl) (ci := 9) rfl 0 rfl rfl hl.1 rfl (Nat.le_of_ble_eq_true rfl) dX10_append_31 ⟨Nat.le_of_ble_eq_true rfl, Nat.le_of_ble_eq_true rfl⟩ (fun r_7 u_6 h_8 H locs hP hD hS => ?_)
      have h_8 : r_7 = 0 := h_8
      subst h_8
      have hP : va_P D vwCl (fl [[ob (b 0) 9 [.int 0, .ref (b 1), .int (nI ln), .int sp, .ref (b 2), .ref (b 3), .ref (b 4), .ref (b 5), .int ac, .ref (b 6), .ref (b 7), .ref (b 8), .ref (b 9), .ref (b 10), .ref (b 11)]], [ia ty (b 1) 60 cd]]) H := P_perm (po (bs := [[ob (b 0) 9 [.int 0, .ref (b 1), .int (nI ln), .int sp, .ref (b 2), .ref (b 3), .ref (b 4), .ref (b 5), .int ac, .ref (b 6), .ref (b 7), .ref (b 8), .ref (b 9), .ref (b 10), .ref (b 11)]], [ia ty (b 1) 60 cd]]) [0, 1] 2 rfl (by decide +kernel) rfl) hP
      have hD : va_D A (fl [[ob (b 0) 9 [.int 0, .ref (b 1), .int (nI ln), .int sp, .ref (b 2), .ref (b 3), .ref (b 4), .ref (b 5), .int ac, .ref (b 6), .ref (b 7), .ref (b 8), .ref (b 9), .ref (b 10), .ref (b 11)]], [ia ty (b 1) 60 cd]]) := D_perm (po (bs := [[ob (b 0) 9 [.int 0, .ref (b 1), .int (nI ln), .int sp, .ref (b 2), .ref (b 3), .ref (b 4), .ref (b 5), .int ac, .ref (b 6), .ref (b 7), .ref (b 8), .ref (b 9), .ref (b 10), .ref (b 11)]], [ia ty (b 1) 60 cd]]) [0, 1] 2 rfl (by decide +kernel) rfl) hD
      refine lv_if_eq (tgt := 39) hx hb dX10_append_34 (by decide) (fun c_9 => ?_) (fun c_9 => ?_)
      · skip
        refine lv_aload_n hx hb dX10_append_39 rfl (lv_at hl 0 rfl) ?_
        refine va_get (D := D) (ci := 9) (v := .ref (b 1)) (C := RX10) (T := TX10) (N := 15) hx hb hts i_X10 hown hK hP 0 rfl rfl 1 (by decide) (hts (Cond.fieldLink RX10 7 "BrownClockModel" "text" "[I") (List.mem_of_getElem? (i := 3) rfl)) (fun _ h9 => h9) rfl dX10_append_40 ?_
        refine lv_aload_n hx hb dX10_append_43 rfl (lv_at hl 0 rfl) ?_
        refine va_get (D := D) (ci := 9) (v := .int (nI ln)) (C := RX10) (T := TX10) (N := 15) hx hb hts i_X10 hown hK hP 0 rfl rfl 2 (by decide) (hts (Cond.fieldLink RX10 95 "BrownClockModel" "textSize" "I") (List.mem_of_getElem? (i := 2) rfl)) (fun _ h9 => h9) rfl dX10_append_44 ?_
        refine lv_iload_n hx hb dX10_append_47 rfl (lv_at hl 1 rfl) ?_
        refine k_iast hx hb hK hP hD hS 1 rfl ln rfl (by omega) (Nat.le_of_ble_eq_true rfl) dX10_append_48 (fun H locs hP hD hS => ?_)
        have hP : va_P D vwCl (fl [[ob (b 0) 9 [.int 0, .ref (b 1), .int (nI ln), .int sp, .ref (b 2), .ref (b 3), .ref (b 4), .ref (b 5), .int ac, .ref (b 6), .ref (b 7), .ref (b 8), .ref (b 9), .ref (b 10), .ref (b 11)]], [ia ty (b 1) 60 (upd cd ln c9)]]) H := hP
        have hD : va_D A (fl [[ob (b 0) 9 [.int 0, .ref (b 1), .int (nI ln), .int sp, .ref (b 2), .ref (b 3), .ref (b 4), .ref (b 5), .int ac, .ref (b 6), .ref (b 7), .ref (b 8), .ref (b 9), .ref (b 10), .ref (b 11)]], [ia ty (b 1) 60 (upd cd ln c9)]]) := hD
        refine lv_aload_n hx hb dX10_append_49 rfl (lv_at hl 0 rfl) ?_
        refine lv_dup hx hb dX10_append_50 rfl ?_
        refine va_get (D := D) (ci := 9) (v := .int (nI ln)) (C := RX10) (T := TX10) (N := 15) hx hb hts i_X10 hown hK hP 0 rfl rfl 2 (by decide) (hts (Cond.fieldLink RX10 95 "BrownClockModel" "textSize" "I") (List.mem_of_getElem? (i := 2) rfl)) (fun _ h9 => h9) rfl dX10_append_51 ?_
        refine lv_iconst (v := 1) hx hb dX10_append_54 (by decide) ?_
        refine k_iadd (v := (nI (ln + 1))) hx hb dX10_append_55 (nI_add (ln) (1)) ?_
        refine va_put (D := D) (ci := 9) (v := .int (nI (ln + 1))) (ty := .int) (C := RX10) (T := TX10) (N := 15) hx hb hts i_X10 tyX10 tyX10_ok nmX10 hown hK hP hD hS 0 rfl rfl 2 (by decide) (hts (Cond.fieldLink RX10 95 "BrownClockModel" "textSize" "I") (List.mem_of_getElem? (i := 2) rfl)) (fun _ h9 => h9) rfl (by decide +kernel) rfl rfl (Nat.le_of_ble_eq_true rfl) dX10_append_56 (fun H locs hP hD hS => ?_)
        have hP : va_P D vwCl (fl [[ob (b 0) 9 [.int 0, .ref (b 1), .int (nI (ln + 1)), .int sp, .ref (b 2), .ref (b 3), .ref (b 4), .ref (b 5), .int ac, .ref (b 6), .ref (b 7), .ref (b 8), .ref (b 9), .ref (b 10), .ref (b 11)]], [ia ty (b 1) 60 (upd cd ln c9)]]) H := hP
        have hD : va_D A (fl [[ob (b 0) 9 [.int 0, .ref (b 1), .int (nI (ln + 1)), .int sp, .ref (b 2), .ref (b 3), .ref (b 4), .ref (b 5), .int ac, .ref (b 6), .ref (b 7), .ref (b 8), .ref (b 9), .ref (b 10), .ref (b 11)]], [ia ty (b 1) 60 (upd cd ln c9)]]) := hD
        refine lv_aload_n hx hb dX10_append_59 rfl (lv_at hl 0 rfl) ?_
        refine va_get (D := D) (ci := 9) (v := .int (nI (ln + 1))) (C := RX10) (T := TX10) (N := 15) hx hb hts i_X10 hown hK hP 0 rfl rfl 2 (by decide) (hts (Cond.fieldLink RX10 95 "BrownClockModel" "textSize" "I") (List.mem_of_getElem? (i := 2) rfl)) (fun _ h9 => h9) rfl dX10_append_60 ?_
        have hP : va_P D vwCl (fl [[ob (b 0) 9 [.int 0, .ref (b 1), .int (nI (ln + 1)), .int sp, .ref (b 2), .ref (b 3), .ref (b 4), .ref (b 5), .int ac, .ref (b 6), .ref (b 7), .ref (b 8), .ref (b 9), .ref (b 10), .ref (b 11)]], [ia ty (b 1) 60 (upd cd ln c9)]]) H := hP
        have hD : va_D A (fl [[ob (b 0) 9 [.int 0, .ref (b 1), .int (nI (ln + 1)), .int sp, .ref (b 2), .ref (b 3), .ref (b 4), .ref (b 5), .int ac, .ref (b 6), .ref (b 7), .ref (b 8), .ref (b 9), .ref (b 10), .ref (b 11)]], [ia ty (b 1) 60 (upd cd ln c9)]]) := hD
        exact end_i (bs' := (fun (_ : Unit) => [[ob (b 0) 9 [.int 0, .ref (b 1), .int (nI (ln + 1)), .int sp, .ref (b 2), .ref (b 3), .ref (b 4), .ref (b 5), .int ac, .ref (b 6), .ref (b 7), .ref (b 8), .ref (b 9), .ref (b 10), .ref (b 11)]], [ia ty (b 1) 60 (upd cd ln c9)]])) () hx hb hr hlocks hP hD hS (by first | rfl | decide | simp [c_4, c_5, c_9]) (Nat.le_of_ble_eq_true rfl) (Nat.le_of_ble_eq_true rfl) dX10_append_63
      · exact absurd (by decide) c_9
    · first | exact absurd c_5 (fun q => absurd ((nI_eq (a := ln) (b := 60) (by omega) (by decide)).mp q) (by omega)) | exact absurd (fun q => absurd ((nI_eq (a := ln) (b := 60) (by omega) (by decide)).mp q) (by omega)) c_5
  · first | exact absurd c_4 (invR_y hc0 (by decide +kernel) (by decide +kernel)) | exact absurd (invR_y hc0 (by decide +kernel) (by decide +kernel)) c_4
set_option maxHeartbeats 4000000 in
set_option maxRecDepth 100000 in
theorem c_X10_append_n0 (l : Launch) (D : va_G) (ty : Nat → ClassId) (b : Nat → Nat) (rf sp ac : Int32) (ln : Nat) (cd : Nat → Int32) (c9 : Int32) (hl6 : ln ≤ 60) (hc0 : ¬ (inR c9 0 255)) : CTi l yX10_append wsX10_append ({ frames := 1, cells := 0, slots := 0, locals := 25 }) D ty [.ref (b 0), .int c9] [[ob (b 0) 9 [.int rf, .ref (b 1), .int (nI ln), .int sp, .ref (b 2), .ref (b 3), .ref (b 4), .ref (b 5), .int ac, .ref (b 6), .ref (b 7), .ref (b 8), .ref (b 9), .ref (b 10), .ref (b 11)]], [ia ty (b 1) 60 cd]] (fun (RET : Int32) (_ : Unit) => RET = 0) (fun (_ : Unit) => [[ob (b 0) 9 [.int 1, .ref (b 1), .int (nI ln), .int sp, .ref (b 2), .ref (b 3), .ref (b 4), .ref (b 5), .int ac, .ref (b 6), .ref (b 7), .ref (b 8), .ref (b 9), .ref (b 10), .ref (b 11)]], [ia ty (b 1) 60 cd]]) := by
  refine CTi_of cX10_append 2 (some .int) (by decide) rfl (Nat.le_of_ble_eq_true rfl) ?_
  intro p e s m args below meth c A hx hb hr hml hown hlocks hin hts hA hX hK hP hD ls hl
  have hown : s.vm.findClass RX10 = some m.cls := hown
  have hS : va_S A s.heap s.heap [] := va_S.rf
  have hl : lv_has ls 2 [(0, .ref (b 0)), (1, .int c9)] := hl
  refine lv_aload_n hx hb dX10_append_0 rfl (lv_at hl 0 rfl) ?_
  refine lv_iload_n hx hb dX10_append_1 rfl (lv_at hl 1 rfl) ?_
  refine lv_i2l (v := (Int32.toInt64 c9)) hx hb dX10_append_2 rfl ?_
  refine lv_lconst (v := 0) hx hb dX10_append_3 (by decide) ?_
  refine lv_ldc2 hx hb hown (hts (Cond.constantLong RX10 89 (255)) (List.mem_of_getElem? (i := 1) rfl)) dX10_append_4 ?_
  refine cSi (As := [.long (Int32.toInt64 c9), .long 0, .long 255]) (rest := [.ref (b 0)]) ⟨hx, hb, hml, hown, hts⟩ (c_X10_in l D ty (Int32.toInt64 c9) 0 255) (va_cwS 3 hts gX10_append_X10_in rfl rfl rfl (by decide +kernel) ⟨Nat.le_of_ble_eq_true rfl, Nat.le_of_ble_eq_true rfl⟩) hK hX hP hD hS hA (pk (bs := [[ob (b 0) 9 [.int rf, .ref (b 1), .int (nI ln), .int sp, .ref (b 2), .ref (b 3), .ref (b 4), .ref (b 5), .int ac, .ref (b 6), .ref (b 7), .ref (b 8), .ref (b 9), .ref (b 10), .ref (b 11)]], [ia ty (b 1) 60 cd]]) (bsc := []) (bsr := [[ob (b 0) 9 [.int rf, .ref (b 1), .int (nI ln), .int sp, .ref (b 2), .ref (b 3), .ref (b 4), .ref (b 5), .int ac, .ref (b 6), .ref (b 7), .ref (b 8), .ref (b 9), .ref (b 10), .ref (b 11)]], [ia ty (b 1) 60 cd]]) [] [0, 1] 2 rfl (by decide +kernel) rfl rfl) rfl hl.1 rfl (Nat.le_of_ble_eq_true rfl) dX10_append_7 ⟨Nat.le_of_ble_eq_true rfl, Nat.le_of_ble_eq_true rfl⟩ (fun r_2 u_1 h_3 H locs hP hD hS => ?_)
  have h_3 : r_2 = (inv (Int32.toInt64 c9) 0 255) := h_3
  subst h_3
  have hP : va_P D vwCl (fl [[ob (b 0) 9 [.int rf, .ref (b 1), .int (nI ln), .int sp, .ref (b 2), .ref (b 3), .ref (b 4), .ref (b 5), .int ac, .ref (b 6), .ref (b 7), .ref (b 8), .ref (b 9), .ref (b 10), .ref (b 11)]], [ia ty (b 1) 60 cd]]) H := P_perm (po (bs := [[ob (b 0) 9 [.int rf, .ref (b 1), .int (nI ln), .int sp, .ref (b 2), .ref (b 3), .ref (b 4), .ref (b 5), .int ac, .ref (b 6), .ref (b 7), .ref (b 8), .ref (b 9), .ref (b 10), .ref (b 11)]], [ia ty (b 1) 60 cd]]) [0, 1] 2 rfl (by decide +kernel) rfl) hP
  have hD : va_D A (fl [[ob (b 0) 9 [.int rf, .ref (b 1), .int (nI ln), .int sp, .ref (b 2), .ref (b 3), .ref (b 4), .ref (b 5), .int ac, .ref (b 6), .ref (b 7), .ref (b 8), .ref (b 9), .ref (b 10), .ref (b 11)]], [ia ty (b 1) 60 cd]]) := D_perm (po (bs := [[ob (b 0) 9 [.int rf, .ref (b 1), .int (nI ln), .int sp, .ref (b 2), .ref (b 3), .ref (b 4), .ref (b 5), .int ac, .ref (b 6), .ref (b 7), .ref (b 8), .ref (b 9), .ref (b 10), .ref (b 11)]], [ia ty (b 1) 60 cd]]) [0, 1] 2 rfl (by decide +kernel) rfl) hD
  refine lv_if_ne (tgt := 17) hx hb dX10_append_10 (by decide) (fun c_4 => ?_) (fun c_4 => ?_)
  · first | exact absurd c_4 (invR_n hc0 (by decide +kernel) (by decide +kernel)) | exact absurd (invR_n hc0 (by decide +kernel) (by decide +kernel)) c_4
  · skip
    refine lv_iconst (v := 1) hx hb dX10_append_13 (by decide) ?_
    refine lv_goto (tgt := 31) hx hb dX10_append_14 (by decide) ?_
    refine cVi (As := [.int 1]) (rest := []) ⟨hx, hb, hml, hown, hts⟩ (c_X10_refused1 l D ty b rf (nI ln) sp ac 1 (by decide)) (cwV 1 hts gX10_append_X10_refused rfl rfl rfl (by decide +kernel) ⟨Nat.le_of_ble_eq_true rfl, Nat.le_of_ble_eq_true rfl⟩) hK hX hP hD hS hA (pk (bs := [[ob (b 0) 9 [.int rf, .ref (b 1), .int (nI ln), .int sp, .ref (b 2), .ref (b 3), .ref (b 4), .ref (b 5), .int ac, .ref (b 6), .ref (b 7), .ref (b 8), .ref (b 9), .ref (b 10), .ref (b 11)]], [ia ty (b 1) 60 cd]]) (bsc := [[ob (b 0) 9 [.int rf, .ref (b 1), .int (nI ln), .int sp, .ref (b 2), .ref (b 3), .ref (b 4), .ref (b 5), .int ac, .ref (b 6), .ref (b 7), .ref (b 8), .ref (b 9), .ref (b 10), .ref (b 11)]]]) (bsr := [[ia ty (b 1) 60 cd]]) [0] [1] 2 rfl (by decide +kernel) rfl rfl) (ci := 9) rfl 0 rfl rfl hl.1 rfl (Nat.le_of_ble_eq_true rfl) dX10_append_31 ⟨Nat.le_of_ble_eq_true rfl, Nat.le_of_ble_eq_true rfl⟩ (fun r_6 u_5 h_7 H locs hP hD hS => ?_)
    have h_7 : r_6 = 1 := h_7
    subst h_7
    have hP : va_P D vwCl (fl [[ob (b 0) 9 [.int 1, .ref (b 1), .int (nI ln), .int sp, .ref (b 2), .ref (b 3), .ref (b 4), .ref (b 5), .int ac, .ref (b 6), .ref (b 7), .ref (b 8), .ref (b 9), .ref (b 10), .ref (b 11)]], [ia ty (b 1) 60 cd]]) H := P_perm (po (bs := [[ob (b 0) 9 [.int 1, .ref (b 1), .int (nI ln), .int sp, .ref (b 2), .ref (b 3), .ref (b 4), .ref (b 5), .int ac, .ref (b 6), .ref (b 7), .ref (b 8), .ref (b 9), .ref (b 10), .ref (b 11)]], [ia ty (b 1) 60 cd]]) [0, 1] 2 rfl (by decide +kernel) rfl) hP
    have hD : va_D A (fl [[ob (b 0) 9 [.int 1, .ref (b 1), .int (nI ln), .int sp, .ref (b 2), .ref (b 3), .ref (b 4), .ref (b 5), .int ac, .ref (b 6), .ref (b 7), .ref (b 8), .ref (b 9), .ref (b 10), .ref (b 11)]], [ia ty (b 1) 60 cd]]) := D_perm (po (bs := [[ob (b 0) 9 [.int 1, .ref (b 1), .int (nI ln), .int sp, .ref (b 2), .ref (b 3), .ref (b 4), .ref (b 5), .int ac, .ref (b 6), .ref (b 7), .ref (b 8), .ref (b 9), .ref (b 10), .ref (b 11)]], [ia ty (b 1) 60 cd]]) [0, 1] 2 rfl (by decide +kernel) rfl) hD
    refine lv_if_eq (tgt := 39) hx hb dX10_append_34 (by decide) (fun c_8 => ?_) (fun c_8 => ?_)
    · exact absurd c_8 (by decide)
    · skip
      refine lv_iconst (v := 0) hx hb dX10_append_37 (by decide) ?_
      have hP : va_P D vwCl (fl [[ob (b 0) 9 [.int 1, .ref (b 1), .int (nI ln), .int sp, .ref (b 2), .ref (b 3), .ref (b 4), .ref (b 5), .int ac, .ref (b 6), .ref (b 7), .ref (b 8), .ref (b 9), .ref (b 10), .ref (b 11)]], [ia ty (b 1) 60 cd]]) H := hP
      have hD : va_D A (fl [[ob (b 0) 9 [.int 1, .ref (b 1), .int (nI ln), .int sp, .ref (b 2), .ref (b 3), .ref (b 4), .ref (b 5), .int ac, .ref (b 6), .ref (b 7), .ref (b 8), .ref (b 9), .ref (b 10), .ref (b 11)]], [ia ty (b 1) 60 cd]]) := hD
      exact end_i (bs' := (fun (_ : Unit) => [[ob (b 0) 9 [.int 1, .ref (b 1), .int (nI ln), .int sp, .ref (b 2), .ref (b 3), .ref (b 4), .ref (b 5), .int ac, .ref (b 6), .ref (b 7), .ref (b 8), .ref (b 9), .ref (b 10), .ref (b 11)]], [ia ty (b 1) 60 cd]])) () hx hb hr hlocks hP hD hS (by first | rfl | decide | simp [c_4, c_8]) (Nat.le_of_ble_eq_true rfl) (Nat.le_of_ble_eq_true rfl) dX10_append_38
set_option maxHeartbeats 4000000 in
set_option maxRecDepth 100000 in
theorem c_X10_append_n1 (l : Launch) (D : va_G) (ty : Nat → ClassId) (b : Nat → Nat) (rf sp ac : Int32) (ln : Nat) (cd : Nat → Int32) (c9 : Int32) (hl6 : ln ≤ 60) (hc0 : inR c9 0 255) (hc1 : ¬ (ln < 60)) : CTi l yX10_append wsX10_append ({ frames := 1, cells := 0, slots := 0, locals := 25 }) D ty [.ref (b 0), .int c9] [[ob (b 0) 9 [.int rf, .ref (b 1), .int (nI ln), .int sp, .ref (b 2), .ref (b 3), .ref (b 4), .ref (b 5), .int ac, .ref (b 6), .ref (b 7), .ref (b 8), .ref (b 9), .ref (b 10), .ref (b 11)]], [ia ty (b 1) 60 cd]] (fun (RET : Int32) (_ : Unit) => RET = 0) (fun (_ : Unit) => [[ob (b 0) 9 [.int 2, .ref (b 1), .int (nI ln), .int sp, .ref (b 2), .ref (b 3), .ref (b 4), .ref (b 5), .int ac, .ref (b 6), .ref (b 7), .ref (b 8), .ref (b 9), .ref (b 10), .ref (b 11)]], [ia ty (b 1) 60 cd]]) := by
  refine CTi_of cX10_append 2 (some .int) (by decide) rfl (Nat.le_of_ble_eq_true rfl) ?_
  intro p e s m args below meth c A hx hb hr hml hown hlocks hin hts hA hX hK hP hD ls hl
  have hown : s.vm.findClass RX10 = some m.cls := hown
  have hS : va_S A s.heap s.heap [] := va_S.rf
  have i_X10 : ∀ z ∈ wsX100, z ∈ wsX10_append := fun z h => List.mem_cons_of_mem _ (List.mem_append_right _ h)
  have hl : lv_has ls 2 [(0, .ref (b 0)), (1, .int c9)] := hl
  refine lv_aload_n hx hb dX10_append_0 rfl (lv_at hl 0 rfl) ?_
  refine lv_iload_n hx hb dX10_append_1 rfl (lv_at hl 1 rfl) ?_
  refine lv_i2l (v := (Int32.toInt64 c9)) hx hb dX10_append_2 rfl ?_
  refine lv_lconst (v := 0) hx hb dX10_append_3 (by decide) ?_
  refine lv_ldc2 hx hb hown (hts (Cond.constantLong RX10 89 (255)) (List.mem_of_getElem? (i := 1) rfl)) dX10_append_4 ?_
  refine cSi (As := [.long (Int32.toInt64 c9), .long 0, .long 255]) (rest := [.ref (b 0)]) ⟨hx, hb, hml, hown, hts⟩ (c_X10_in l D ty (Int32.toInt64 c9) 0 255) (va_cwS 3 hts gX10_append_X10_in rfl rfl rfl (by decide +kernel) ⟨Nat.le_of_ble_eq_true rfl, Nat.le_of_ble_eq_true rfl⟩) hK hX hP hD hS hA (pk (bs := [[ob (b 0) 9 [.int rf, .ref (b 1), .int (nI ln), .int sp, .ref (b 2), .ref (b 3), .ref (b 4), .ref (b 5), .int ac, .ref (b 6), .ref (b 7), .ref (b 8), .ref (b 9), .ref (b 10), .ref (b 11)]], [ia ty (b 1) 60 cd]]) (bsc := []) (bsr := [[ob (b 0) 9 [.int rf, .ref (b 1), .int (nI ln), .int sp, .ref (b 2), .ref (b 3), .ref (b 4), .ref (b 5), .int ac, .ref (b 6), .ref (b 7), .ref (b 8), .ref (b 9), .ref (b 10), .ref (b 11)]], [ia ty (b 1) 60 cd]]) [] [0, 1] 2 rfl (by decide +kernel) rfl rfl) rfl hl.1 rfl (Nat.le_of_ble_eq_true rfl) dX10_append_7 ⟨Nat.le_of_ble_eq_true rfl, Nat.le_of_ble_eq_true rfl⟩ (fun r_2 u_1 h_3 H locs hP hD hS => ?_)
  have h_3 : r_2 = (inv (Int32.toInt64 c9) 0 255) := h_3
  subst h_3
  have hP : va_P D vwCl (fl [[ob (b 0) 9 [.int rf, .ref (b 1), .int (nI ln), .int sp, .ref (b 2), .ref (b 3), .ref (b 4), .ref (b 5), .int ac, .ref (b 6), .ref (b 7), .ref (b 8), .ref (b 9), .ref (b 10), .ref (b 11)]], [ia ty (b 1) 60 cd]]) H := P_perm (po (bs := [[ob (b 0) 9 [.int rf, .ref (b 1), .int (nI ln), .int sp, .ref (b 2), .ref (b 3), .ref (b 4), .ref (b 5), .int ac, .ref (b 6), .ref (b 7), .ref (b 8), .ref (b 9), .ref (b 10), .ref (b 11)]], [ia ty (b 1) 60 cd]]) [0, 1] 2 rfl (by decide +kernel) rfl) hP
  have hD : va_D A (fl [[ob (b 0) 9 [.int rf, .ref (b 1), .int (nI ln), .int sp, .ref (b 2), .ref (b 3), .ref (b 4), .ref (b 5), .int ac, .ref (b 6), .ref (b 7), .ref (b 8), .ref (b 9), .ref (b 10), .ref (b 11)]], [ia ty (b 1) 60 cd]]) := D_perm (po (bs := [[ob (b 0) 9 [.int rf, .ref (b 1), .int (nI ln), .int sp, .ref (b 2), .ref (b 3), .ref (b 4), .ref (b 5), .int ac, .ref (b 6), .ref (b 7), .ref (b 8), .ref (b 9), .ref (b 10), .ref (b 11)]], [ia ty (b 1) 60 cd]]) [0, 1] 2 rfl (by decide +kernel) rfl) hD
  refine lv_if_ne (tgt := 17) hx hb dX10_append_10 (by decide) (fun c_4 => ?_) (fun c_4 => ?_)
  · skip
    refine lv_aload_n hx hb dX10_append_17 rfl (lv_at hl 0 rfl) ?_
    refine va_get (D := D) (ci := 9) (v := .int (nI ln)) (C := RX10) (T := TX10) (N := 15) hx hb hts i_X10 hown hK hP 0 rfl rfl 2 (by decide) (hts (Cond.fieldLink RX10 95 "BrownClockModel" "textSize" "I") (List.mem_of_getElem? (i := 2) rfl)) (fun _ h9 => h9) rfl dX10_append_18 ?_
    refine lv_bipush (v := 60) hx hb dX10_append_21 (by decide) ?_
    refine lv_icmp_ne (tgt := 30) hx hb dX10_append_23 (by decide) (fun c_5 => ?_) (fun c_5 => ?_)
    · first | exact absurd c_5 (congrArg nI (show ln = 60 by omega)) | exact absurd (congrArg nI (show ln = 60 by omega)) c_5
    · skip
      refine lv_iconst (v := 2) hx hb dX10_append_26 (by decide) ?_
      refine lv_goto (tgt := 31) hx hb dX10_append_27 (by decide) ?_
      refine cVi (As := [.int 2]) (rest := []) ⟨hx, hb, hml, hown, hts⟩ (c_X10_refused1 l D ty b rf (nI ln) sp ac 2 (by decide)) (cwV 1 hts gX10_append_X10_refused rfl rfl rfl (by decide +kernel) ⟨Nat.le_of_ble_eq_true rfl, Nat.le_of_ble_eq_true rfl⟩) hK hX hP hD hS hA (pk (bs := [[ob (b 0) 9 [.int rf, .ref (b 1), .int (nI ln), .int sp, .ref (b 2), .ref (b 3), .ref (b 4), .ref (b 5), .int ac, .ref (b 6), .ref (b 7), .ref (b 8), .ref (b 9), .ref (b 10), .ref (b 11)]], [ia ty (b 1) 60 cd]]) (bsc := [[ob (b 0) 9 [.int rf, .ref (b 1), .int (nI ln), .int sp, .ref (b 2), .ref (b 3), .ref (b 4), .ref (b 5), .int ac, .ref (b 6), .ref (b 7), .ref (b 8), .ref (b 9), .ref (b 10), .ref (b 11)]]]) (bsr := [[ia ty (b 1) 60 cd]]) [0] [1] 2 rfl (by decide +kernel) rfl rfl) (ci := 9) rfl 0 rfl rfl hl.1 rfl (Nat.le_of_ble_eq_true rfl) dX10_append_31 ⟨Nat.le_of_ble_eq_true rfl, Nat.le_of_ble_eq_true rfl⟩ (fun r_7 u_6 h_8 H locs hP hD hS => ?_)
      have h_8 : r_7 = 1 := h_8
      subst h_8
      have hP : va_P D vwCl (fl [[ob (b 0) 9 [.int 2, .ref (b 1), .int (nI ln), .int sp, .ref (b 2), .ref (b 3), .ref (b 4), .ref (b 5), .int ac, .ref (b 6), .ref (b 7), .ref (b 8), .ref (b 9), .ref (b 10), .ref (b 11)]], [ia ty (b 1) 60 cd]]) H := P_perm (po (bs := [[ob (b 0) 9 [.int 2, .ref (b 1), .int (nI ln), .int sp, .ref (b 2), .ref (b 3), .ref (b 4), .ref (b 5), .int ac, .ref (b 6), .ref (b 7), .ref (b 8), .ref (b 9), .ref (b 10), .ref (b 11)]], [ia ty (b 1) 60 cd]]) [0, 1] 2 rfl (by decide +kernel) rfl) hP
      have hD : va_D A (fl [[ob (b 0) 9 [.int 2, .ref (b 1), .int (nI ln), .int sp, .ref (b 2), .ref (b 3), .ref (b 4), .ref (b 5), .int ac, .ref (b 6), .ref (b 7), .ref (b 8), .ref (b 9), .ref (b 10), .ref (b 11)]], [ia ty (b 1) 60 cd]]) := D_perm (po (bs := [[ob (b 0) 9 [.int 2, .ref (b 1), .int (nI ln), .int sp, .ref (b 2), .ref (b 3), .ref (b 4), .ref (b 5), .int ac, .ref (b 6), .ref (b 7), .ref (b 8), .ref (b 9), .ref (b 10), .ref (b 11)]], [ia ty (b 1) 60 cd]]) [0, 1] 2 rfl (by decide +kernel) rfl) hD
      refine lv_if_eq (tgt := 39) hx hb dX10_append_34 (by decide) (fun c_9 => ?_) (fun c_9 => ?_)
      · exact absurd c_9 (by decide)
      · skip
        refine lv_iconst (v := 0) hx hb dX10_append_37 (by decide) ?_
        have hP : va_P D vwCl (fl [[ob (b 0) 9 [.int 2, .ref (b 1), .int (nI ln), .int sp, .ref (b 2), .ref (b 3), .ref (b 4), .ref (b 5), .int ac, .ref (b 6), .ref (b 7), .ref (b 8), .ref (b 9), .ref (b 10), .ref (b 11)]], [ia ty (b 1) 60 cd]]) H := hP
        have hD : va_D A (fl [[ob (b 0) 9 [.int 2, .ref (b 1), .int (nI ln), .int sp, .ref (b 2), .ref (b 3), .ref (b 4), .ref (b 5), .int ac, .ref (b 6), .ref (b 7), .ref (b 8), .ref (b 9), .ref (b 10), .ref (b 11)]], [ia ty (b 1) 60 cd]]) := hD
        exact end_i (bs' := (fun (_ : Unit) => [[ob (b 0) 9 [.int 2, .ref (b 1), .int (nI ln), .int sp, .ref (b 2), .ref (b 3), .ref (b 4), .ref (b 5), .int ac, .ref (b 6), .ref (b 7), .ref (b 8), .ref (b 9), .ref (b 10), .ref (b 11)]], [ia ty (b 1) 60 cd]])) () hx hb hr hlocks hP hD hS (by first | rfl | decide | simp [c_4, c_5, c_9]) (Nat.le_of_ble_eq_true rfl) (Nat.le_of_ble_eq_true rfl) dX10_append_38
  · first | exact absurd c_4 (invR_y hc0 (by decide +kernel) (by decide +kernel)) | exact absurd (invR_y hc0 (by decide +kernel) (by decide +kernel)) c_4
set_option maxHeartbeats 4000000 in
set_option maxRecDepth 100000 in
theorem c_X10_clearText (l : Launch) (D : va_G) (ty : Nat → ClassId) (b : Nat → Nat) (rf sp ac : Int32) (ln : Nat) (cd : Nat → Int32) : CTi l yX10_clearText wsX10_clearText ({ frames := 0, cells := 0, slots := 0, locals := 0 }) D ty [.ref (b 0)] [[ob (b 0) 9 [.int rf, .ref (b 1), .int (nI ln), .int sp, .ref (b 2), .ref (b 3), .ref (b 4), .ref (b 5), .int ac, .ref (b 6), .ref (b 7), .ref (b 8), .ref (b 9), .ref (b 10), .ref (b 11)]]] (fun (RET : Int32) (_ : Unit) => RET = (nI ln)) (fun (_ : Unit) => [[ob (b 0) 9 [.int 0, .ref (b 1), .int 0, .int sp, .ref (b 2), .ref (b 3), .ref (b 4), .ref (b 5), .int ac, .ref (b 6), .ref (b 7), .ref (b 8), .ref (b 9), .ref (b 10), .ref (b 11)]]]) := by
  refine CTi_of cX10_clearText 2 (some .int) (by decide) rfl (Nat.le_of_ble_eq_true rfl) ?_
  intro p e s m args below meth c A hx hb hr hml hown hlocks hin hts hA hX hK hP hD ls hl
  have hown : s.vm.findClass RX10 = some m.cls := hown
  have hS : va_S A s.heap s.heap [] := va_S.rf
  have i_X10 : ∀ z ∈ wsX100, z ∈ wsX10_clearText := fun z h => List.mem_cons_of_mem _ (List.mem_append_right _ h)
  have hl : lv_has ls 2 [(0, .ref (b 0))] := hl
  refine lv_aload_n hx hb dX10_clearText_0 rfl (lv_at hl 0 rfl) ?_
  refine lv_iconst (v := 0) hx hb dX10_clearText_1 (by decide) ?_
  refine va_put (D := D) (ci := 9) (v := .int 0) (ty := .int) (C := RX10) (T := TX10) (N := 15) hx hb hts i_X10 tyX10 tyX10_ok nmX10 hown hK hP hD hS 0 rfl rfl 0 (by decide) (hts (Cond.fieldLink RX10 49 "BrownClockModel" "refusal" "I") (List.mem_of_getElem? (i := 1) rfl)) (fun _ h9 => h9) rfl (by decide +kernel) rfl rfl (Nat.le_of_ble_eq_true rfl) dX10_clearText_2 (fun H locs hP hD hS => ?_)
  have hP : va_P D vwCl (fl [[ob (b 0) 9 [.int 0, .ref (b 1), .int (nI ln), .int sp, .ref (b 2), .ref (b 3), .ref (b 4), .ref (b 5), .int ac, .ref (b 6), .ref (b 7), .ref (b 8), .ref (b 9), .ref (b 10), .ref (b 11)]]]) H := hP
  have hD : va_D A (fl [[ob (b 0) 9 [.int 0, .ref (b 1), .int (nI ln), .int sp, .ref (b 2), .ref (b 3), .ref (b 4), .ref (b 5), .int ac, .ref (b 6), .ref (b 7), .ref (b 8), .ref (b 9), .ref (b 10), .ref (b 11)]]]) := hD
  refine lv_aload_n hx hb dX10_clearText_5 rfl (lv_at hl 0 rfl) ?_
  refine va_get (D := D) (ci := 9) (v := .int (nI ln)) (C := RX10) (T := TX10) (N := 15) hx hb hts i_X10 hown hK hP 0 rfl rfl 2 (by decide) (hts (Cond.fieldLink RX10 95 "BrownClockModel" "textSize" "I") (List.mem_of_getElem? (i := 2) rfl)) (fun _ h9 => h9) rfl dX10_clearText_6 ?_
  refine lv_istore_n (lv' := [(1, .int (nI ln)), (0, .ref (b 0))]) hx hb dX10_clearText_9 rfl hl (by decide) rfl (fun ls hl => ?_)
  refine lv_aload_n hx hb dX10_clearText_10 rfl (lv_at hl 1 rfl) ?_
  refine lv_iconst (v := 0) hx hb dX10_clearText_11 (by decide) ?_
  refine va_put (D := D) (ci := 9) (v := .int 0) (ty := .int) (C := RX10) (T := TX10) (N := 15) hx hb hts i_X10 tyX10 tyX10_ok nmX10 hown hK hP hD hS 0 rfl rfl 2 (by decide) (hts (Cond.fieldLink RX10 95 "BrownClockModel" "textSize" "I") (List.mem_of_getElem? (i := 2) rfl)) (fun _ h9 => h9) rfl (by decide +kernel) rfl rfl (Nat.le_of_ble_eq_true rfl) dX10_clearText_12 (fun H locs hP hD hS => ?_)
  have hP : va_P D vwCl (fl [[ob (b 0) 9 [.int 0, .ref (b 1), .int 0, .int sp, .ref (b 2), .ref (b 3), .ref (b 4), .ref (b 5), .int ac, .ref (b 6), .ref (b 7), .ref (b 8), .ref (b 9), .ref (b 10), .ref (b 11)]]]) H := hP
  have hD : va_D A (fl [[ob (b 0) 9 [.int 0, .ref (b 1), .int 0, .int sp, .ref (b 2), .ref (b 3), .ref (b 4), .ref (b 5), .int ac, .ref (b 6), .ref (b 7), .ref (b 8), .ref (b 9), .ref (b 10), .ref (b 11)]]]) := hD
  refine lv_iload_n hx hb dX10_clearText_15 rfl (lv_at hl 0 rfl) ?_
  have hP : va_P D vwCl (fl [[ob (b 0) 9 [.int 0, .ref (b 1), .int 0, .int sp, .ref (b 2), .ref (b 3), .ref (b 4), .ref (b 5), .int ac, .ref (b 6), .ref (b 7), .ref (b 8), .ref (b 9), .ref (b 10), .ref (b 11)]]]) H := hP
  have hD : va_D A (fl [[ob (b 0) 9 [.int 0, .ref (b 1), .int 0, .int sp, .ref (b 2), .ref (b 3), .ref (b 4), .ref (b 5), .int ac, .ref (b 6), .ref (b 7), .ref (b 8), .ref (b 9), .ref (b 10), .ref (b 11)]]]) := hD
  exact end_i (bs' := (fun (_ : Unit) => [[ob (b 0) 9 [.int 0, .ref (b 1), .int 0, .int sp, .ref (b 2), .ref (b 3), .ref (b 4), .ref (b 5), .int ac, .ref (b 6), .ref (b 7), .ref (b 8), .ref (b 9), .ref (b 10), .ref (b 11)]]])) () hx hb hr hlocks hP hD hS (by first | rfl | decide | simp []) (Nat.le_of_ble_eq_true rfl) (Nat.le_of_ble_eq_true rfl) dX10_clearText_16
