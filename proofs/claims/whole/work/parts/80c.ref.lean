set_option maxHeartbeats 4000000 in
set_option maxRecDepth 100000 in
theorem c_X10_row (l : Launch) (D : va_G) (ty : Nat → ClassId) (b : Nat → Nat) (rf tn sp ac : Int32) (r : Nat → Int32) (i9 w9 : Int32) (h0 : ¬ r 11 < 0) (h6 : r 11 ≤ 6) (hc0 : inI i9 (r 11)) (hc1 : inR w9 0 2) : CTi l yX10_row wsX10_row ({ frames := 1, cells := 0, slots := 0, locals := 25 }) D ty [.ref (b 0), .int i9, .int w9] [[ob (b 0) 9 [.int rf, .ref (b 1), .int tn, .int sp, .ref (b 2), .ref (b 3), .ref (b 4), .ref (b 5), .int ac, .ref (b 6), .ref (b 7), .ref (b 8), .ref (b 9), .ref (b 10), .ref (b 11)]], [ia ty (b 3) 57 r]] (fun (RET : Int32) (_ : Unit) => RET = (r (39 + 3 * i9.toNatClampNeg + w9.toNatClampNeg))) (fun (_ : Unit) => [[ob (b 0) 9 [.int 0, .ref (b 1), .int tn, .int sp, .ref (b 2), .ref (b 3), .ref (b 4), .ref (b 5), .int ac, .ref (b 6), .ref (b 7), .ref (b 8), .ref (b 9), .ref (b 10), .ref (b 11)]], [ia ty (b 3) 57 r]]) := by
  refine CTi_of cX10_row 3 (some .int) (by decide) rfl (Nat.le_of_ble_eq_true rfl) ?_
  intro p e s m args below meth c A hx hb hr hml hown hlocks hin hts hA hX hK hP hD ls hl
  have hown : s.vm.findClass RX10 = some m.cls := hown
  have hS : va_S A s.heap s.heap [] := va_S.rf
  have i_X10 : ∀ z ∈ wsX100, z ∈ wsX10_row := fun z h => List.mem_cons_of_mem _ (List.mem_append_right _ h)
  have hl : lv_has ls 3 [(0, .ref (b 0)), (1, .int i9), (2, .int w9)] := hl
  refine lv_aload_n hx hb dX10_row_0 rfl (lv_at hl 0 rfl) ?_
  refine lv_iload_n hx hb dX10_row_1 rfl (lv_at hl 1 rfl) ?_
  refine lv_i2l (v := (Int32.toInt64 i9)) hx hb dX10_row_2 rfl ?_
  refine lv_lconst (v := 0) hx hb dX10_row_3 (by decide) ?_
  refine lv_aload_n hx hb dX10_row_4 rfl (lv_at hl 0 rfl) ?_
  refine va_get (D := D) (ci := 9) (v := .ref (b 3)) (C := RX10) (T := TX10) (N := 15) hx hb hts i_X10 hown hK hP 0 rfl rfl 5 (by decide) (hts (Cond.fieldLink RX10 16 "BrownClockModel" "now" "[I") (List.mem_of_getElem? (i := 1) rfl)) (fun _ h9 => h9) rfl dX10_row_5 ?_
  refine lv_bipush (v := 11) hx hb dX10_row_8 (by decide) ?_
  refine k_iald hx hb hK hP 1 rfl 11 rfl (by decide) (Nat.le_of_ble_eq_true rfl) (v := r 11) rfl dX10_row_10 ?_
  refine lv_iconst (v := 1) hx hb dX10_row_11 (by decide) ?_
  refine k_isub (v := ((r 11) - 1)) hx hb dX10_row_12 rfl ?_
  refine lv_i2l (v := (Int32.toInt64 ((r 11) - 1))) hx hb dX10_row_13 rfl ?_
  refine cSi (As := [.long (Int32.toInt64 i9), .long 0, .long (Int32.toInt64 ((r 11) - 1))]) (rest := [.ref (b 0)]) ⟨hx, hb, hml, hown, hts⟩ (c_X10_in l D ty (Int32.toInt64 i9) 0 (Int32.toInt64 ((r 11) - 1))) (va_cwS 3 hts gX10_row_X10_in rfl rfl rfl (by decide +kernel) ⟨Nat.le_of_ble_eq_true rfl, Nat.le_of_ble_eq_true rfl⟩) hK hX hP hD hS hA (pk (bs := [[ob (b 0) 9 [.int rf, .ref (b 1), .int tn, .int sp, .ref (b 2), .ref (b 3), .ref (b 4), .ref (b 5), .int ac, .ref (b 6), .ref (b 7), .ref (b 8), .ref (b 9), .ref (b 10), .ref (b 11)]], [ia ty (b 3) 57 r]]) (bsc := []) (bsr := [[ob (b 0) 9 [.int rf, .ref (b 1), .int tn, .int sp, .ref (b 2), .ref (b 3), .ref (b 4), .ref (b 5), .int ac, .ref (b 6), .ref (b 7), .ref (b 8), .ref (b 9), .ref (b 10), .ref (b 11)]], [ia ty (b 3) 57 r]]) [] [0, 1] 2 rfl (by decide +kernel) rfl rfl) rfl hl.1 rfl (Nat.le_of_ble_eq_true rfl) dX10_row_14 ⟨Nat.le_of_ble_eq_true rfl, Nat.le_of_ble_eq_true rfl⟩ (fun r_2 u_1 h_3 H locs hP hD hS => ?_)
  have h_3 : r_2 = (inv (Int32.toInt64 i9) 0 (Int32.toInt64 ((r 11) - 1))) := h_3
  subst h_3
  have hP : va_P D vwCl (fl [[ob (b 0) 9 [.int rf, .ref (b 1), .int tn, .int sp, .ref (b 2), .ref (b 3), .ref (b 4), .ref (b 5), .int ac, .ref (b 6), .ref (b 7), .ref (b 8), .ref (b 9), .ref (b 10), .ref (b 11)]], [ia ty (b 3) 57 r]]) H := P_perm (po (bs := [[ob (b 0) 9 [.int rf, .ref (b 1), .int tn, .int sp, .ref (b 2), .ref (b 3), .ref (b 4), .ref (b 5), .int ac, .ref (b 6), .ref (b 7), .ref (b 8), .ref (b 9), .ref (b 10), .ref (b 11)]], [ia ty (b 3) 57 r]]) [0, 1] 2 rfl (by decide +kernel) rfl) hP
  have hD : va_D A (fl [[ob (b 0) 9 [.int rf, .ref (b 1), .int tn, .int sp, .ref (b 2), .ref (b 3), .ref (b 4), .ref (b 5), .int ac, .ref (b 6), .ref (b 7), .ref (b 8), .ref (b 9), .ref (b 10), .ref (b 11)]], [ia ty (b 3) 57 r]]) := D_perm (po (bs := [[ob (b 0) 9 [.int rf, .ref (b 1), .int tn, .int sp, .ref (b 2), .ref (b 3), .ref (b 4), .ref (b 5), .int ac, .ref (b 6), .ref (b 7), .ref (b 8), .ref (b 9), .ref (b 10), .ref (b 11)]], [ia ty (b 3) 57 r]]) [0, 1] 2 rfl (by decide +kernel) rfl) hD
  refine lv_if_ne (tgt := 24) hx hb dX10_row_17 (by decide) (fun c_4 => ?_) (fun c_4 => ?_)
  · skip
    refine lv_iload_n hx hb dX10_row_24 rfl (lv_at hl 2 rfl) ?_
    refine lv_i2l (v := (Int32.toInt64 w9)) hx hb dX10_row_25 rfl ?_
    refine lv_lconst (v := 0) hx hb dX10_row_26 (by decide) ?_
    refine lv_ldc2 hx hb hown (hts (Cond.constantLong RX10 142 (2)) (List.mem_of_getElem? (i := 2) rfl)) dX10_row_27 ?_
    refine cSi (As := [.long (Int32.toInt64 w9), .long 0, .long 2]) (rest := [.ref (b 0)]) ⟨hx, hb, hml, hown, hts⟩ (c_X10_in l D ty (Int32.toInt64 w9) 0 2) (va_cwS 3 hts gX10_row_X10_in rfl rfl rfl (by decide +kernel) ⟨Nat.le_of_ble_eq_true rfl, Nat.le_of_ble_eq_true rfl⟩) hK hX hP hD hS hA (pk (bs := [[ob (b 0) 9 [.int rf, .ref (b 1), .int tn, .int sp, .ref (b 2), .ref (b 3), .ref (b 4), .ref (b 5), .int ac, .ref (b 6), .ref (b 7), .ref (b 8), .ref (b 9), .ref (b 10), .ref (b 11)]], [ia ty (b 3) 57 r]]) (bsc := []) (bsr := [[ob (b 0) 9 [.int rf, .ref (b 1), .int tn, .int sp, .ref (b 2), .ref (b 3), .ref (b 4), .ref (b 5), .int ac, .ref (b 6), .ref (b 7), .ref (b 8), .ref (b 9), .ref (b 10), .ref (b 11)]], [ia ty (b 3) 57 r]]) [] [0, 1] 2 rfl (by decide +kernel) rfl rfl) rfl hl.1 rfl (Nat.le_of_ble_eq_true rfl) dX10_row_30 ⟨Nat.le_of_ble_eq_true rfl, Nat.le_of_ble_eq_true rfl⟩ (fun r_6 u_5 h_7 H locs hP hD hS => ?_)
    have h_7 : r_6 = (inv (Int32.toInt64 w9) 0 2) := h_7
    subst h_7
    have hP : va_P D vwCl (fl [[ob (b 0) 9 [.int rf, .ref (b 1), .int tn, .int sp, .ref (b 2), .ref (b 3), .ref (b 4), .ref (b 5), .int ac, .ref (b 6), .ref (b 7), .ref (b 8), .ref (b 9), .ref (b 10), .ref (b 11)]], [ia ty (b 3) 57 r]]) H := P_perm (po (bs := [[ob (b 0) 9 [.int rf, .ref (b 1), .int tn, .int sp, .ref (b 2), .ref (b 3), .ref (b 4), .ref (b 5), .int ac, .ref (b 6), .ref (b 7), .ref (b 8), .ref (b 9), .ref (b 10), .ref (b 11)]], [ia ty (b 3) 57 r]]) [0, 1] 2 rfl (by decide +kernel) rfl) hP
    have hD : va_D A (fl [[ob (b 0) 9 [.int rf, .ref (b 1), .int tn, .int sp, .ref (b 2), .ref (b 3), .ref (b 4), .ref (b 5), .int ac, .ref (b 6), .ref (b 7), .ref (b 8), .ref (b 9), .ref (b 10), .ref (b 11)]], [ia ty (b 3) 57 r]]) := D_perm (po (bs := [[ob (b 0) 9 [.int rf, .ref (b 1), .int tn, .int sp, .ref (b 2), .ref (b 3), .ref (b 4), .ref (b 5), .int ac, .ref (b 6), .ref (b 7), .ref (b 8), .ref (b 9), .ref (b 10), .ref (b 11)]], [ia ty (b 3) 57 r]]) [0, 1] 2 rfl (by decide +kernel) rfl) hD
    refine lv_if_ne (tgt := 40) hx hb dX10_row_33 (by decide) (fun c_8 => ?_) (fun c_8 => ?_)
    · skip
      refine lv_iconst (v := 0) hx hb dX10_row_40 (by decide) ?_
      refine cVi (As := [.int 0]) (rest := []) ⟨hx, hb, hml, hown, hts⟩ (c_X10_refused0 l D ty b rf tn sp ac) (cwV 1 hts gX10_row_X10_refused rfl rfl rfl (by decide +kernel) ⟨Nat.le_of_ble_eq_true rfl, Nat.le_of_ble_eq_true rfl⟩) hK hX hP hD hS hA (pk (bs := [[ob (b 0) 9 [.int rf, .ref (b 1), .int tn, .int sp, .ref (b 2), .ref (b 3), .ref (b 4), .ref (b 5), .int ac, .ref (b 6), .ref (b 7), .ref (b 8), .ref (b 9), .ref (b 10), .ref (b 11)]], [ia ty (b 3) 57 r]]) (bsc := [[ob (b 0) 9 [.int rf, .ref (b 1), .int tn, .int sp, .ref (b 2), .ref (b 3), .ref (b 4), .ref (b 5), .int ac, .ref (b 6), .ref (b 7), .ref (b 8), .ref (b 9), .ref (b 10), .ref (b 11)]]]) (bsr := [[ia ty (b 3) 57 r]]) [0] [1] 2 rfl (by decide +kernel) rfl rfl) (ci := 9) rfl 0 rfl rfl hl.1 rfl (Nat.le_of_ble_eq_true rfl) dX10_row_41 ⟨Nat.le_of_ble_eq_true rfl, Nat.le_of_ble_eq_true rfl⟩ (fun r_10 u_9 h_11 H locs hP hD hS => ?_)
      have h_11 : r_10 = 0 := h_11
      subst h_11
      have hP : va_P D vwCl (fl [[ob (b 0) 9 [.int 0, .ref (b 1), .int tn, .int sp, .ref (b 2), .ref (b 3), .ref (b 4), .ref (b 5), .int ac, .ref (b 6), .ref (b 7), .ref (b 8), .ref (b 9), .ref (b 10), .ref (b 11)]], [ia ty (b 3) 57 r]]) H := P_perm (po (bs := [[ob (b 0) 9 [.int 0, .ref (b 1), .int tn, .int sp, .ref (b 2), .ref (b 3), .ref (b 4), .ref (b 5), .int ac, .ref (b 6), .ref (b 7), .ref (b 8), .ref (b 9), .ref (b 10), .ref (b 11)]], [ia ty (b 3) 57 r]]) [0, 1] 2 rfl (by decide +kernel) rfl) hP
      have hD : va_D A (fl [[ob (b 0) 9 [.int 0, .ref (b 1), .int tn, .int sp, .ref (b 2), .ref (b 3), .ref (b 4), .ref (b 5), .int ac, .ref (b 6), .ref (b 7), .ref (b 8), .ref (b 9), .ref (b 10), .ref (b 11)]], [ia ty (b 3) 57 r]]) := D_perm (po (bs := [[ob (b 0) 9 [.int 0, .ref (b 1), .int tn, .int sp, .ref (b 2), .ref (b 3), .ref (b 4), .ref (b 5), .int ac, .ref (b 6), .ref (b 7), .ref (b 8), .ref (b 9), .ref (b 10), .ref (b 11)]], [ia ty (b 3) 57 r]]) [0, 1] 2 rfl (by decide +kernel) rfl) hD
      refine lv_if_eq (tgt := 51) hx hb dX10_row_44 (by decide) (fun c_12 => ?_) (fun c_12 => ?_)
      · skip
        have h6l : i9 < 6 := fa_trans hc0.2 h6
        have hI6 : inI i9 6 := ⟨hc0.1, h6l⟩
        obtain ⟨J, hJ⟩ : ∃ z, z = i9.toNatClampNeg := ⟨_, rfl⟩
        have nJ : i9 = nI J := by rw [hJ]; exact nI_self hI6.1
        have lJ : J < 6 := by rw [hJ]; exact nI_ltn hI6.1 (by decide) (show i9 < nI 6 from hI6.2)
        have hl : lv_has ls 3 [(0, .ref (b 0)), (1, .int (nI J)), (2, .int w9)] := by rw [← nJ]; exact hl
        obtain ⟨J2, hJ2⟩ : ∃ z, z = w9.toNatClampNeg := ⟨_, rfl⟩
        have qJ2 := inR_nat hc1 (by decide +kernel)
        have nJ2 : w9 = nI J2 := by rw [hJ2]; exact qJ2.1
        have lJ2 : J2 < 3 := by have q9 := qJ2.2.1; rw [← hJ2, show (2 : Int32).toInt = 2 from by decide +kernel] at q9; omega
        have hl : lv_has ls 3 [(0, .ref (b 0)), (1, .int (nI J)), (2, .int (nI J2))] := by rw [← nJ2]; exact hl
        refine lv_aload_n hx hb dX10_row_51 rfl (lv_at hl 0 rfl) ?_
        refine va_get (D := D) (ci := 9) (v := .ref (b 3)) (C := RX10) (T := TX10) (N := 15) hx hb hts i_X10 hown hK hP 0 rfl rfl 5 (by decide) (hts (Cond.fieldLink RX10 16 "BrownClockModel" "now" "[I") (List.mem_of_getElem? (i := 1) rfl)) (fun _ h9 => h9) rfl dX10_row_52 ?_
        refine lv_bipush (v := 39) hx hb dX10_row_55 (by decide) ?_
        refine lv_iconst (v := 3) hx hb dX10_row_57 (by decide) ?_
        refine lv_iload_n hx hb dX10_row_58 rfl (lv_at hl 1 rfl) ?_
        refine k_imul (v := (nI (3 * J))) hx hb dX10_row_59 (nI_mul (3) (J)) ?_
        refine k_iadd (v := (nI (39 + 3 * J))) hx hb dX10_row_60 (nI_add (39) (3 * J)) ?_
        refine lv_iload_n hx hb dX10_row_61 rfl (lv_at hl 2 rfl) ?_
        refine k_iadd (v := (nI (39 + 3 * J + J2))) hx hb dX10_row_62 (nI_add (39 + 3 * J) (J2)) ?_
        refine k_iald hx hb hK hP 1 rfl (39 + 3 * J + J2) rfl (by omega) (Nat.le_of_ble_eq_true rfl) (v := r (39 + 3 * J + J2)) rfl dX10_row_63 ?_
        have hPn := hP
        have hDn := hD
        have hSn := hS
        subst hJ
        have hP := hPn
        have hD := hDn
        have hS := hSn
        have hPn := hP
        have hDn := hD
        have hSn := hS
        subst hJ2
        have hP := hPn
        have hD := hDn
        have hS := hSn
        have hP : va_P D vwCl (fl [[ob (b 0) 9 [.int 0, .ref (b 1), .int tn, .int sp, .ref (b 2), .ref (b 3), .ref (b 4), .ref (b 5), .int ac, .ref (b 6), .ref (b 7), .ref (b 8), .ref (b 9), .ref (b 10), .ref (b 11)]], [ia ty (b 3) 57 r]]) H := hP
        have hD : va_D A (fl [[ob (b 0) 9 [.int 0, .ref (b 1), .int tn, .int sp, .ref (b 2), .ref (b 3), .ref (b 4), .ref (b 5), .int ac, .ref (b 6), .ref (b 7), .ref (b 8), .ref (b 9), .ref (b 10), .ref (b 11)]], [ia ty (b 3) 57 r]]) := hD
        exact end_i (bs' := (fun (_ : Unit) => [[ob (b 0) 9 [.int 0, .ref (b 1), .int tn, .int sp, .ref (b 2), .ref (b 3), .ref (b 4), .ref (b 5), .int ac, .ref (b 6), .ref (b 7), .ref (b 8), .ref (b 9), .ref (b 10), .ref (b 11)]], [ia ty (b 3) 57 r]])) () hx hb hr hlocks hP hD hS rfl (Nat.le_of_ble_eq_true rfl) (Nat.le_of_ble_eq_true rfl) dX10_row_64
      · exact absurd (by decide) c_12
    · first | exact absurd c_8 (invR_y hc1 (by decide +kernel) (by decide +kernel)) | exact absurd (invR_y hc1 (by decide +kernel) (by decide +kernel)) c_8
  · first | exact absurd c_4 (invI_y hc0 (by decide +kernel) (row_1 h0 h6)) | exact absurd (invI_y hc0 (by decide +kernel) (row_1 h0 h6)) c_4
set_option maxHeartbeats 4000000 in
set_option maxRecDepth 100000 in
theorem c_X10_row_n0 (l : Launch) (D : va_G) (ty : Nat → ClassId) (b : Nat → Nat) (rf tn sp ac : Int32) (r : Nat → Int32) (i9 w9 : Int32) (h0 : ¬ r 11 < 0) (h6 : r 11 ≤ 6) (hc0 : ¬ (inI i9 (r 11))) : CTi l yX10_row wsX10_row ({ frames := 1, cells := 0, slots := 0, locals := 25 }) D ty [.ref (b 0), .int i9, .int w9] [[ob (b 0) 9 [.int rf, .ref (b 1), .int tn, .int sp, .ref (b 2), .ref (b 3), .ref (b 4), .ref (b 5), .int ac, .ref (b 6), .ref (b 7), .ref (b 8), .ref (b 9), .ref (b 10), .ref (b 11)]], [ia ty (b 3) 57 r]] (fun (RET : Int32) (_ : Unit) => RET = 0) (fun (_ : Unit) => [[ob (b 0) 9 [.int 1, .ref (b 1), .int tn, .int sp, .ref (b 2), .ref (b 3), .ref (b 4), .ref (b 5), .int ac, .ref (b 6), .ref (b 7), .ref (b 8), .ref (b 9), .ref (b 10), .ref (b 11)]], [ia ty (b 3) 57 r]]) := by
  refine CTi_of cX10_row 3 (some .int) (by decide) rfl (Nat.le_of_ble_eq_true rfl) ?_
  intro p e s m args below meth c A hx hb hr hml hown hlocks hin hts hA hX hK hP hD ls hl
  have hown : s.vm.findClass RX10 = some m.cls := hown
  have hS : va_S A s.heap s.heap [] := va_S.rf
  have i_X10 : ∀ z ∈ wsX100, z ∈ wsX10_row := fun z h => List.mem_cons_of_mem _ (List.mem_append_right _ h)
  have hl : lv_has ls 3 [(0, .ref (b 0)), (1, .int i9), (2, .int w9)] := hl
  refine lv_aload_n hx hb dX10_row_0 rfl (lv_at hl 0 rfl) ?_
  refine lv_iload_n hx hb dX10_row_1 rfl (lv_at hl 1 rfl) ?_
  refine lv_i2l (v := (Int32.toInt64 i9)) hx hb dX10_row_2 rfl ?_
  refine lv_lconst (v := 0) hx hb dX10_row_3 (by decide) ?_
  refine lv_aload_n hx hb dX10_row_4 rfl (lv_at hl 0 rfl) ?_
  refine va_get (D := D) (ci := 9) (v := .ref (b 3)) (C := RX10) (T := TX10) (N := 15) hx hb hts i_X10 hown hK hP 0 rfl rfl 5 (by decide) (hts (Cond.fieldLink RX10 16 "BrownClockModel" "now" "[I") (List.mem_of_getElem? (i := 1) rfl)) (fun _ h9 => h9) rfl dX10_row_5 ?_
  refine lv_bipush (v := 11) hx hb dX10_row_8 (by decide) ?_
  refine k_iald hx hb hK hP 1 rfl 11 rfl (by decide) (Nat.le_of_ble_eq_true rfl) (v := r 11) rfl dX10_row_10 ?_
  refine lv_iconst (v := 1) hx hb dX10_row_11 (by decide) ?_
  refine k_isub (v := ((r 11) - 1)) hx hb dX10_row_12 rfl ?_
  refine lv_i2l (v := (Int32.toInt64 ((r 11) - 1))) hx hb dX10_row_13 rfl ?_
  refine cSi (As := [.long (Int32.toInt64 i9), .long 0, .long (Int32.toInt64 ((r 11) - 1))]) (rest := [.ref (b 0)]) ⟨hx, hb, hml, hown, hts⟩ (c_X10_in l D ty (Int32.toInt64 i9) 0 (Int32.toInt64 ((r 11) - 1))) (va_cwS 3 hts gX10_row_X10_in rfl rfl rfl (by decide +kernel) ⟨Nat.le_of_ble_eq_true rfl, Nat.le_of_ble_eq_true rfl⟩) hK hX hP hD hS hA (pk (bs := [[ob (b 0) 9 [.int rf, .ref (b 1), .int tn, .int sp, .ref (b 2), .ref (b 3), .ref (b 4), .ref (b 5), .int ac, .ref (b 6), .ref (b 7), .ref (b 8), .ref (b 9), .ref (b 10), .ref (b 11)]], [ia ty (b 3) 57 r]]) (bsc := []) (bsr := [[ob (b 0) 9 [.int rf, .ref (b 1), .int tn, .int sp, .ref (b 2), .ref (b 3), .ref (b 4), .ref (b 5), .int ac, .ref (b 6), .ref (b 7), .ref (b 8), .ref (b 9), .ref (b 10), .ref (b 11)]], [ia ty (b 3) 57 r]]) [] [0, 1] 2 rfl (by decide +kernel) rfl rfl) rfl hl.1 rfl (Nat.le_of_ble_eq_true rfl) dX10_row_14 ⟨Nat.le_of_ble_eq_true rfl, Nat.le_of_ble_eq_true rfl⟩ (fun r_2 u_1 h_3 H locs hP hD hS => ?_)
  have h_3 : r_2 = (inv (Int32.toInt64 i9) 0 (Int32.toInt64 ((r 11) - 1))) := h_3
  subst h_3
  have hP : va_P D vwCl (fl [[ob (b 0) 9 [.int rf, .ref (b 1), .int tn, .int sp, .ref (b 2), .ref (b 3), .ref (b 4), .ref (b 5), .int ac, .ref (b 6), .ref (b 7), .ref (b 8), .ref (b 9), .ref (b 10), .ref (b 11)]], [ia ty (b 3) 57 r]]) H := P_perm (po (bs := [[ob (b 0) 9 [.int rf, .ref (b 1), .int tn, .int sp, .ref (b 2), .ref (b 3), .ref (b 4), .ref (b 5), .int ac, .ref (b 6), .ref (b 7), .ref (b 8), .ref (b 9), .ref (b 10), .ref (b 11)]], [ia ty (b 3) 57 r]]) [0, 1] 2 rfl (by decide +kernel) rfl) hP
  have hD : va_D A (fl [[ob (b 0) 9 [.int rf, .ref (b 1), .int tn, .int sp, .ref (b 2), .ref (b 3), .ref (b 4), .ref (b 5), .int ac, .ref (b 6), .ref (b 7), .ref (b 8), .ref (b 9), .ref (b 10), .ref (b 11)]], [ia ty (b 3) 57 r]]) := D_perm (po (bs := [[ob (b 0) 9 [.int rf, .ref (b 1), .int tn, .int sp, .ref (b 2), .ref (b 3), .ref (b 4), .ref (b 5), .int ac, .ref (b 6), .ref (b 7), .ref (b 8), .ref (b 9), .ref (b 10), .ref (b 11)]], [ia ty (b 3) 57 r]]) [0, 1] 2 rfl (by decide +kernel) rfl) hD
  refine lv_if_ne (tgt := 24) hx hb dX10_row_17 (by decide) (fun c_4 => ?_) (fun c_4 => ?_)
  · first | exact absurd c_4 (invI_n hc0 (by decide +kernel) (row_1 h0 h6)) | exact absurd (invI_n hc0 (by decide +kernel) (row_1 h0 h6)) c_4
  · skip
    refine lv_iconst (v := 1) hx hb dX10_row_20 (by decide) ?_
    refine lv_goto (tgt := 41) hx hb dX10_row_21 (by decide) ?_
    refine cVi (As := [.int 1]) (rest := []) ⟨hx, hb, hml, hown, hts⟩ (c_X10_refused1 l D ty b rf tn sp ac 1 (by decide)) (cwV 1 hts gX10_row_X10_refused rfl rfl rfl (by decide +kernel) ⟨Nat.le_of_ble_eq_true rfl, Nat.le_of_ble_eq_true rfl⟩) hK hX hP hD hS hA (pk (bs := [[ob (b 0) 9 [.int rf, .ref (b 1), .int tn, .int sp, .ref (b 2), .ref (b 3), .ref (b 4), .ref (b 5), .int ac, .ref (b 6), .ref (b 7), .ref (b 8), .ref (b 9), .ref (b 10), .ref (b 11)]], [ia ty (b 3) 57 r]]) (bsc := [[ob (b 0) 9 [.int rf, .ref (b 1), .int tn, .int sp, .ref (b 2), .ref (b 3), .ref (b 4), .ref (b 5), .int ac, .ref (b 6), .ref (b 7), .ref (b 8), .ref (b 9), .ref (b 10), .ref (b 11)]]]) (bsr := [[ia ty (b 3) 57 r]]) [0] [1] 2 rfl (by decide +kernel) rfl rfl) (ci := 9) rfl 0 rfl rfl hl.1 rfl (Nat.le_of_ble_eq_true rfl) dX10_row_41 ⟨Nat.le_of_ble_eq_true rfl, Nat.le_of_ble_eq_true rfl⟩ (fun r_6 u_5 h_7 H locs hP hD hS => ?_)
    have h_7 : r_6 = 1 := h_7
    subst h_7
    have hP : va_P D vwCl (fl [[ob (b 0) 9 [.int 1, .ref (b 1), .int tn, .int sp, .ref (b 2), .ref (b 3), .ref (b 4), .ref (b 5), .int ac, .ref (b 6), .ref (b 7), .ref (b 8), .ref (b 9), .ref (b 10), .ref (b 11)]], [ia ty (b 3) 57 r]]) H := P_perm (po (bs := [[ob (b 0) 9 [.int 1, .ref (b 1), .int tn, .int sp, .ref (b 2), .ref (b 3), .ref (b 4), .ref (b 5), .int ac, .ref (b 6), .ref (b 7), .ref (b 8), .ref (b 9), .ref (b 10), .ref (b 11)]], [ia ty (b 3) 57 r]]) [0, 1] 2 rfl (by decide +kernel) rfl) hP
    have hD : va_D A (fl [[ob (b 0) 9 [.int 1, .ref (b 1), .int tn, .int sp, .ref (b 2), .ref (b 3), .ref (b 4), .ref (b 5), .int ac, .ref (b 6), .ref (b 7), .ref (b 8), .ref (b 9), .ref (b 10), .ref (b 11)]], [ia ty (b 3) 57 r]]) := D_perm (po (bs := [[ob (b 0) 9 [.int 1, .ref (b 1), .int tn, .int sp, .ref (b 2), .ref (b 3), .ref (b 4), .ref (b 5), .int ac, .ref (b 6), .ref (b 7), .ref (b 8), .ref (b 9), .ref (b 10), .ref (b 11)]], [ia ty (b 3) 57 r]]) [0, 1] 2 rfl (by decide +kernel) rfl) hD
    refine lv_if_eq (tgt := 51) hx hb dX10_row_44 (by decide) (fun c_8 => ?_) (fun c_8 => ?_)
    · exact absurd c_8 (by decide)
    · skip
      refine lv_iconst (v := 0) hx hb dX10_row_47 (by decide) ?_
      refine lv_goto (tgt := 64) hx hb dX10_row_48 (by decide) ?_
      have hP : va_P D vwCl (fl [[ob (b 0) 9 [.int 1, .ref (b 1), .int tn, .int sp, .ref (b 2), .ref (b 3), .ref (b 4), .ref (b 5), .int ac, .ref (b 6), .ref (b 7), .ref (b 8), .ref (b 9), .ref (b 10), .ref (b 11)]], [ia ty (b 3) 57 r]]) H := hP
      have hD : va_D A (fl [[ob (b 0) 9 [.int 1, .ref (b 1), .int tn, .int sp, .ref (b 2), .ref (b 3), .ref (b 4), .ref (b 5), .int ac, .ref (b 6), .ref (b 7), .ref (b 8), .ref (b 9), .ref (b 10), .ref (b 11)]], [ia ty (b 3) 57 r]]) := hD
      exact end_i (bs' := (fun (_ : Unit) => [[ob (b 0) 9 [.int 1, .ref (b 1), .int tn, .int sp, .ref (b 2), .ref (b 3), .ref (b 4), .ref (b 5), .int ac, .ref (b 6), .ref (b 7), .ref (b 8), .ref (b 9), .ref (b 10), .ref (b 11)]], [ia ty (b 3) 57 r]])) () hx hb hr hlocks hP hD hS (by first | rfl | decide | simp [c_4, c_8]) (Nat.le_of_ble_eq_true rfl) (Nat.le_of_ble_eq_true rfl) dX10_row_64
set_option maxHeartbeats 4000000 in
set_option maxRecDepth 100000 in
theorem c_X10_row_n1 (l : Launch) (D : va_G) (ty : Nat → ClassId) (b : Nat → Nat) (rf tn sp ac : Int32) (r : Nat → Int32) (i9 w9 : Int32) (h0 : ¬ r 11 < 0) (h6 : r 11 ≤ 6) (hc0 : inI i9 (r 11)) (hc1 : ¬ (inR w9 0 2)) : CTi l yX10_row wsX10_row ({ frames := 1, cells := 0, slots := 0, locals := 25 }) D ty [.ref (b 0), .int i9, .int w9] [[ob (b 0) 9 [.int rf, .ref (b 1), .int tn, .int sp, .ref (b 2), .ref (b 3), .ref (b 4), .ref (b 5), .int ac, .ref (b 6), .ref (b 7), .ref (b 8), .ref (b 9), .ref (b 10), .ref (b 11)]], [ia ty (b 3) 57 r]] (fun (RET : Int32) (_ : Unit) => RET = 0) (fun (_ : Unit) => [[ob (b 0) 9 [.int 2, .ref (b 1), .int tn, .int sp, .ref (b 2), .ref (b 3), .ref (b 4), .ref (b 5), .int ac, .ref (b 6), .ref (b 7), .ref (b 8), .ref (b 9), .ref (b 10), .ref (b 11)]], [ia ty (b 3) 57 r]]) := by
  refine CTi_of cX10_row 3 (some .int) (by decide) rfl (Nat.le_of_ble_eq_true rfl) ?_
  intro p e s m args below meth c A hx hb hr hml hown hlocks hin hts hA hX hK hP hD ls hl
  have hown : s.vm.findClass RX10 = some m.cls := hown
  have hS : va_S A s.heap s.heap [] := va_S.rf
  have i_X10 : ∀ z ∈ wsX100, z ∈ wsX10_row := fun z h => List.mem_cons_of_mem _ (List.mem_append_right _ h)
  have hl : lv_has ls 3 [(0, .ref (b 0)), (1, .int i9), (2, .int w9)] := hl
  refine lv_aload_n hx hb dX10_row_0 rfl (lv_at hl 0 rfl) ?_
  refine lv_iload_n hx hb dX10_row_1 rfl (lv_at hl 1 rfl) ?_
  refine lv_i2l (v := (Int32.toInt64 i9)) hx hb dX10_row_2 rfl ?_
  refine lv_lconst (v := 0) hx hb dX10_row_3 (by decide) ?_
  refine lv_aload_n hx hb dX10_row_4 rfl (lv_at hl 0 rfl) ?_
  refine va_get (D := D) (ci := 9) (v := .ref (b 3)) (C := RX10) (T := TX10) (N := 15) hx hb hts i_X10 hown hK hP 0 rfl rfl 5 (by decide) (hts (Cond.fieldLink RX10 16 "BrownClockModel" "now" "[I") (List.mem_of_getElem? (i := 1) rfl)) (fun _ h9 => h9) rfl dX10_row_5 ?_
  refine lv_bipush (v := 11) hx hb dX10_row_8 (by decide) ?_
  refine k_iald hx hb hK hP 1 rfl 11 rfl (by decide) (Nat.le_of_ble_eq_true rfl) (v := r 11) rfl dX10_row_10 ?_
  refine lv_iconst (v := 1) hx hb dX10_row_11 (by decide) ?_
  refine k_isub (v := ((r 11) - 1)) hx hb dX10_row_12 rfl ?_
  refine lv_i2l (v := (Int32.toInt64 ((r 11) - 1))) hx hb dX10_row_13 rfl ?_
  refine cSi (As := [.long (Int32.toInt64 i9), .long 0, .long (Int32.toInt64 ((r 11) - 1))]) (rest := [.ref (b 0)]) ⟨hx, hb, hml, hown, hts⟩ (c_X10_in l D ty (Int32.toInt64 i9) 0 (Int32.toInt64 ((r 11) - 1))) (va_cwS 3 hts gX10_row_X10_in rfl rfl rfl (by decide +kernel) ⟨Nat.le_of_ble_eq_true rfl, Nat.le_of_ble_eq_true rfl⟩) hK hX hP hD hS hA (pk (bs := [[ob (b 0) 9 [.int rf, .ref (b 1), .int tn, .int sp, .ref (b 2), .ref (b 3), .ref (b 4), .ref (b 5), .int ac, .ref (b 6), .ref (b 7), .ref (b 8), .ref (b 9), .ref (b 10), .ref (b 11)]], [ia ty (b 3) 57 r]]) (bsc := []) (bsr := [[ob (b 0) 9 [.int rf, .ref (b 1), .int tn, .int sp, .ref (b 2), .ref (b 3), .ref (b 4), .ref (b 5), .int ac, .ref (b 6), .ref (b 7), .ref (b 8), .ref (b 9), .ref (b 10), .ref (b 11)]], [ia ty (b 3) 57 r]]) [] [0, 1] 2 rfl (by decide +kernel) rfl rfl) rfl hl.1 rfl (Nat.le_of_ble_eq_true rfl) dX10_row_14 ⟨Nat.le_of_ble_eq_true rfl, Nat.le_of_ble_eq_true rfl⟩ (fun r_2 u_1 h_3 H locs hP hD hS => ?_)
  have h_3 : r_2 = (inv (Int32.toInt64 i9) 0 (Int32.toInt64 ((r 11) - 1))) := h_3
  subst h_3
  have hP : va_P D vwCl (fl [[ob (b 0) 9 [.int rf, .ref (b 1), .int tn, .int sp, .ref (b 2), .ref (b 3), .ref (b 4), .ref (b 5), .int ac, .ref (b 6), .ref (b 7), .ref (b 8), .ref (b 9), .ref (b 10), .ref (b 11)]], [ia ty (b 3) 57 r]]) H := P_perm (po (bs := [[ob (b 0) 9 [.int rf, .ref (b 1), .int tn, .int sp, .ref (b 2), .ref (b 3), .ref (b 4), .ref (b 5), .int ac, .ref (b 6), .ref (b 7), .ref (b 8), .ref (b 9), .ref (b 10), .ref (b 11)]], [ia ty (b 3) 57 r]]) [0, 1] 2 rfl (by decide +kernel) rfl) hP
  have hD : va_D A (fl [[ob (b 0) 9 [.int rf, .ref (b 1), .int tn, .int sp, .ref (b 2), .ref (b 3), .ref (b 4), .ref (b 5), .int ac, .ref (b 6), .ref (b 7), .ref (b 8), .ref (b 9), .ref (b 10), .ref (b 11)]], [ia ty (b 3) 57 r]]) := D_perm (po (bs := [[ob (b 0) 9 [.int rf, .ref (b 1), .int tn, .int sp, .ref (b 2), .ref (b 3), .ref (b 4), .ref (b 5), .int ac, .ref (b 6), .ref (b 7), .ref (b 8), .ref (b 9), .ref (b 10), .ref (b 11)]], [ia ty (b 3) 57 r]]) [0, 1] 2 rfl (by decide +kernel) rfl) hD
  refine lv_if_ne (tgt := 24) hx hb dX10_row_17 (by decide) (fun c_4 => ?_) (fun c_4 => ?_)
  · skip
    refine lv_iload_n hx hb dX10_row_24 rfl (lv_at hl 2 rfl) ?_
    refine lv_i2l (v := (Int32.toInt64 w9)) hx hb dX10_row_25 rfl ?_
    refine lv_lconst (v := 0) hx hb dX10_row_26 (by decide) ?_
    refine lv_ldc2 hx hb hown (hts (Cond.constantLong RX10 142 (2)) (List.mem_of_getElem? (i := 2) rfl)) dX10_row_27 ?_
    refine cSi (As := [.long (Int32.toInt64 w9), .long 0, .long 2]) (rest := [.ref (b 0)]) ⟨hx, hb, hml, hown, hts⟩ (c_X10_in l D ty (Int32.toInt64 w9) 0 2) (va_cwS 3 hts gX10_row_X10_in rfl rfl rfl (by decide +kernel) ⟨Nat.le_of_ble_eq_true rfl, Nat.le_of_ble_eq_true rfl⟩) hK hX hP hD hS hA (pk (bs := [[ob (b 0) 9 [.int rf, .ref (b 1), .int tn, .int sp, .ref (b 2), .ref (b 3), .ref (b 4), .ref (b 5), .int ac, .ref (b 6), .ref (b 7), .ref (b 8), .ref (b 9), .ref (b 10), .ref (b 11)]], [ia ty (b 3) 57 r]]) (bsc := []) (bsr := [[ob (b 0) 9 [.int rf, .ref (b 1), .int tn, .int sp, .ref (b 2), .ref (b 3), .ref (b 4), .ref (b 5), .int ac, .ref (b 6), .ref (b 7), .ref (b 8), .ref (b 9), .ref (b 10), .ref (b 11)]], [ia ty (b 3) 57 r]]) [] [0, 1] 2 rfl (by decide +kernel) rfl rfl) rfl hl.1 rfl (Nat.le_of_ble_eq_true rfl) dX10_row_30 ⟨Nat.le_of_ble_eq_true rfl, Nat.le_of_ble_eq_true rfl⟩ (fun r_6 u_5 h_7 H locs hP hD hS => ?_)
    have h_7 : r_6 = (inv (Int32.toInt64 w9) 0 2) := h_7
    subst h_7
    have hP : va_P D vwCl (fl [[ob (b 0) 9 [.int rf, .ref (b 1), .int tn, .int sp, .ref (b 2), .ref (b 3), .ref (b 4), .ref (b 5), .int ac, .ref (b 6), .ref (b 7), .ref (b 8), .ref (b 9), .ref (b 10), .ref (b 11)]], [ia ty (b 3) 57 r]]) H := P_perm (po (bs := [[ob (b 0) 9 [.int rf, .ref (b 1), .int tn, .int sp, .ref (b 2), .ref (b 3), .ref (b 4), .ref (b 5), .int ac, .ref (b 6), .ref (b 7), .ref (b 8), .ref (b 9), .ref (b 10), .ref (b 11)]], [ia ty (b 3) 57 r]]) [0, 1] 2 rfl (by decide +kernel) rfl) hP
    have hD : va_D A (fl [[ob (b 0) 9 [.int rf, .ref (b 1), .int tn, .int sp, .ref (b 2), .ref (b 3), .ref (b 4), .ref (b 5), .int ac, .ref (b 6), .ref (b 7), .ref (b 8), .ref (b 9), .ref (b 10), .ref (b 11)]], [ia ty (b 3) 57 r]]) := D_perm (po (bs := [[ob (b 0) 9 [.int rf, .ref (b 1), .int tn, .int sp, .ref (b 2), .ref (b 3), .ref (b 4), .ref (b 5), .int ac, .ref (b 6), .ref (b 7), .ref (b 8), .ref (b 9), .ref (b 10), .ref (b 11)]], [ia ty (b 3) 57 r]]) [0, 1] 2 rfl (by decide +kernel) rfl) hD
    refine lv_if_ne (tgt := 40) hx hb dX10_row_33 (by decide) (fun c_8 => ?_) (fun c_8 => ?_)
    · first | exact absurd c_8 (invR_n hc1 (by decide +kernel) (by decide +kernel)) | exact absurd (invR_n hc1 (by decide +kernel) (by decide +kernel)) c_8
    · skip
      refine lv_iconst (v := 2) hx hb dX10_row_36 (by decide) ?_
      refine lv_goto (tgt := 41) hx hb dX10_row_37 (by decide) ?_
      refine cVi (As := [.int 2]) (rest := []) ⟨hx, hb, hml, hown, hts⟩ (c_X10_refused1 l D ty b rf tn sp ac 2 (by decide)) (cwV 1 hts gX10_row_X10_refused rfl rfl rfl (by decide +kernel) ⟨Nat.le_of_ble_eq_true rfl, Nat.le_of_ble_eq_true rfl⟩) hK hX hP hD hS hA (pk (bs := [[ob (b 0) 9 [.int rf, .ref (b 1), .int tn, .int sp, .ref (b 2), .ref (b 3), .ref (b 4), .ref (b 5), .int ac, .ref (b 6), .ref (b 7), .ref (b 8), .ref (b 9), .ref (b 10), .ref (b 11)]], [ia ty (b 3) 57 r]]) (bsc := [[ob (b 0) 9 [.int rf, .ref (b 1), .int tn, .int sp, .ref (b 2), .ref (b 3), .ref (b 4), .ref (b 5), .int ac, .ref (b 6), .ref (b 7), .ref (b 8), .ref (b 9), .ref (b 10), .ref (b 11)]]]) (bsr := [[ia ty (b 3) 57 r]]) [0] [1] 2 rfl (by decide +kernel) rfl rfl) (ci := 9) rfl 0 rfl rfl hl.1 rfl (Nat.le_of_ble_eq_true rfl) dX10_row_41 ⟨Nat.le_of_ble_eq_true rfl, Nat.le_of_ble_eq_true rfl⟩ (fun r_10 u_9 h_11 H locs hP hD hS => ?_)
      have h_11 : r_10 = 1 := h_11
      subst h_11
      have hP : va_P D vwCl (fl [[ob (b 0) 9 [.int 2, .ref (b 1), .int tn, .int sp, .ref (b 2), .ref (b 3), .ref (b 4), .ref (b 5), .int ac, .ref (b 6), .ref (b 7), .ref (b 8), .ref (b 9), .ref (b 10), .ref (b 11)]], [ia ty (b 3) 57 r]]) H := P_perm (po (bs := [[ob (b 0) 9 [.int 2, .ref (b 1), .int tn, .int sp, .ref (b 2), .ref (b 3), .ref (b 4), .ref (b 5), .int ac, .ref (b 6), .ref (b 7), .ref (b 8), .ref (b 9), .ref (b 10), .ref (b 11)]], [ia ty (b 3) 57 r]]) [0, 1] 2 rfl (by decide +kernel) rfl) hP
      have hD : va_D A (fl [[ob (b 0) 9 [.int 2, .ref (b 1), .int tn, .int sp, .ref (b 2), .ref (b 3), .ref (b 4), .ref (b 5), .int ac, .ref (b 6), .ref (b 7), .ref (b 8), .ref (b 9), .ref (b 10), .ref (b 11)]], [ia ty (b 3) 57 r]]) := D_perm (po (bs := [[ob (b 0) 9 [.int 2, .ref (b 1), .int tn, .int sp, .ref (b 2), .ref (b 3), .ref (b 4), .ref (b 5), .int ac, .ref (b 6), .ref (b 7), .ref (b 8), .ref (b 9), .ref (b 10), .ref (b 11)]], [ia ty (b 3) 57 r]]) [0, 1] 2 rfl (by decide +kernel) rfl) hD
      refine lv_if_eq (tgt := 51) hx hb dX10_row_44 (by decide) (fun c_12 => ?_) (fun c_12 => ?_)
      · exact absurd c_12 (by decide)
      · skip
        refine lv_iconst (v := 0) hx hb dX10_row_47 (by decide) ?_
        refine lv_goto (tgt := 64) hx hb dX10_row_48 (by decide) ?_
        have hP : va_P D vwCl (fl [[ob (b 0) 9 [.int 2, .ref (b 1), .int tn, .int sp, .ref (b 2), .ref (b 3), .ref (b 4), .ref (b 5), .int ac, .ref (b 6), .ref (b 7), .ref (b 8), .ref (b 9), .ref (b 10), .ref (b 11)]], [ia ty (b 3) 57 r]]) H := hP
        have hD : va_D A (fl [[ob (b 0) 9 [.int 2, .ref (b 1), .int tn, .int sp, .ref (b 2), .ref (b 3), .ref (b 4), .ref (b 5), .int ac, .ref (b 6), .ref (b 7), .ref (b 8), .ref (b 9), .ref (b 10), .ref (b 11)]], [ia ty (b 3) 57 r]]) := hD
        exact end_i (bs' := (fun (_ : Unit) => [[ob (b 0) 9 [.int 2, .ref (b 1), .int tn, .int sp, .ref (b 2), .ref (b 3), .ref (b 4), .ref (b 5), .int ac, .ref (b 6), .ref (b 7), .ref (b 8), .ref (b 9), .ref (b 10), .ref (b 11)]], [ia ty (b 3) 57 r]])) () hx hb hr hlocks hP hD hS (by first | rfl | decide | simp [c_4, c_8, c_12]) (Nat.le_of_ble_eq_true rfl) (Nat.le_of_ble_eq_true rfl) dX10_row_64
  · first | exact absurd c_4 (invI_y hc0 (by decide +kernel) (row_1 h0 h6)) | exact absurd (invI_y hc0 (by decide +kernel) (row_1 h0 h6)) c_4
set_option maxHeartbeats 4000000 in
set_option maxRecDepth 100000 in
theorem c_X10_alarm (l : Launch) (D : va_G) (ty : Nat → ClassId) (b : Nat → Nat) (rf tn sp ac : Int32) (r : Nat → Int32) (i9 w9 : Int32) (hc0 : inI i9 4) (hc1 : inR w9 0 2) : CTi l yX10_alarm wsX10_alarm ({ frames := 2, cells := 0, slots := 0, locals := 45 }) D ty [.ref (b 0), .int i9, .int w9] [[ob (b 0) 9 [.int rf, .ref (b 1), .int tn, .int sp, .ref (b 2), .ref (b 3), .ref (b 4), .ref (b 5), .int ac, .ref (b 6), .ref (b 7), .ref (b 8), .ref (b 9), .ref (b 10), .ref (b 11)]], [ia ty (b 3) 57 r]] (fun (RET : Int32) (_ : Unit) => RET = (r (27 + 3 * i9.toNatClampNeg + w9.toNatClampNeg))) (fun (_ : Unit) => [[ob (b 0) 9 [.int 0, .ref (b 1), .int tn, .int sp, .ref (b 2), .ref (b 3), .ref (b 4), .ref (b 5), .int ac, .ref (b 6), .ref (b 7), .ref (b 8), .ref (b 9), .ref (b 10), .ref (b 11)]], [ia ty (b 3) 57 r]]) := by
  refine CTi_of cX10_alarm 3 (some .int) (by decide) rfl (Nat.le_of_ble_eq_true rfl) ?_
  intro p e s m args below meth c A hx hb hr hml hown hlocks hin hts hA hX hK hP hD ls hl
  have hown : s.vm.findClass RX10 = some m.cls := hown
  have hS : va_S A s.heap s.heap [] := va_S.rf
  have i_X10 : ∀ z ∈ wsX100, z ∈ wsX10_alarm := fun z h => List.mem_cons_of_mem _ (List.mem_append_right _ h)
  have hl : lv_has ls 3 [(0, .ref (b 0)), (1, .int i9), (2, .int w9)] := hl
  refine lv_aload_n hx hb dX10_alarm_0 rfl (lv_at hl 0 rfl) ?_
  refine lv_iload_n hx hb dX10_alarm_1 rfl (lv_at hl 1 rfl) ?_
  refine cSi (As := [.int i9]) (rest := [.ref (b 0)]) ⟨hx, hb, hml, hown, hts⟩ (c_X10_isAlarm l D ty i9) (va_cwS 1 hts gX10_alarm_X10_isAlarm rfl rfl rfl (by decide +kernel) ⟨Nat.le_of_ble_eq_true rfl, Nat.le_of_ble_eq_true rfl⟩) hK hX hP hD hS hA (pk (bs := [[ob (b 0) 9 [.int rf, .ref (b 1), .int tn, .int sp, .ref (b 2), .ref (b 3), .ref (b 4), .ref (b 5), .int ac, .ref (b 6), .ref (b 7), .ref (b 8), .ref (b 9), .ref (b 10), .ref (b 11)]], [ia ty (b 3) 57 r]]) (bsc := []) (bsr := [[ob (b 0) 9 [.int rf, .ref (b 1), .int tn, .int sp, .ref (b 2), .ref (b 3), .ref (b 4), .ref (b 5), .int ac, .ref (b 6), .ref (b 7), .ref (b 8), .ref (b 9), .ref (b 10), .ref (b 11)]], [ia ty (b 3) 57 r]]) [] [0, 1] 2 rfl (by decide +kernel) rfl rfl) rfl hl.1 rfl (Nat.le_of_ble_eq_true rfl) dX10_alarm_2 ⟨Nat.le_of_ble_eq_true rfl, Nat.le_of_ble_eq_true rfl⟩ (fun r_2 u_1 h_3 H locs hP hD hS => ?_)
  have h_3 : r_2 = (inv (Int32.toInt64 i9) 0 3) := h_3
  subst h_3
  have hP : va_P D vwCl (fl [[ob (b 0) 9 [.int rf, .ref (b 1), .int tn, .int sp, .ref (b 2), .ref (b 3), .ref (b 4), .ref (b 5), .int ac, .ref (b 6), .ref (b 7), .ref (b 8), .ref (b 9), .ref (b 10), .ref (b 11)]], [ia ty (b 3) 57 r]]) H := P_perm (po (bs := [[ob (b 0) 9 [.int rf, .ref (b 1), .int tn, .int sp, .ref (b 2), .ref (b 3), .ref (b 4), .ref (b 5), .int ac, .ref (b 6), .ref (b 7), .ref (b 8), .ref (b 9), .ref (b 10), .ref (b 11)]], [ia ty (b 3) 57 r]]) [0, 1] 2 rfl (by decide +kernel) rfl) hP
  have hD : va_D A (fl [[ob (b 0) 9 [.int rf, .ref (b 1), .int tn, .int sp, .ref (b 2), .ref (b 3), .ref (b 4), .ref (b 5), .int ac, .ref (b 6), .ref (b 7), .ref (b 8), .ref (b 9), .ref (b 10), .ref (b 11)]], [ia ty (b 3) 57 r]]) := D_perm (po (bs := [[ob (b 0) 9 [.int rf, .ref (b 1), .int tn, .int sp, .ref (b 2), .ref (b 3), .ref (b 4), .ref (b 5), .int ac, .ref (b 6), .ref (b 7), .ref (b 8), .ref (b 9), .ref (b 10), .ref (b 11)]], [ia ty (b 3) 57 r]]) [0, 1] 2 rfl (by decide +kernel) rfl) hD
  refine lv_if_ne (tgt := 12) hx hb dX10_alarm_5 (by decide) (fun c_4 => ?_) (fun c_4 => ?_)
  · skip
    refine lv_iload_n hx hb dX10_alarm_12 rfl (lv_at hl 2 rfl) ?_
    refine lv_i2l (v := (Int32.toInt64 w9)) hx hb dX10_alarm_13 rfl ?_
    refine lv_lconst (v := 0) hx hb dX10_alarm_14 (by decide) ?_
    refine lv_ldc2 hx hb hown (hts (Cond.constantLong RX10 142 (2)) (List.mem_of_getElem? (i := 1) rfl)) dX10_alarm_15 ?_
    refine cSi (As := [.long (Int32.toInt64 w9), .long 0, .long 2]) (rest := [.ref (b 0)]) ⟨hx, hb, hml, hown, hts⟩ (c_X10_in l D ty (Int32.toInt64 w9) 0 2) (va_cwS 3 hts gX10_alarm_X10_in rfl rfl rfl (by decide +kernel) ⟨Nat.le_of_ble_eq_true rfl, Nat.le_of_ble_eq_true rfl⟩) hK hX hP hD hS hA (pk (bs := [[ob (b 0) 9 [.int rf, .ref (b 1), .int tn, .int sp, .ref (b 2), .ref (b 3), .ref (b 4), .ref (b 5), .int ac, .ref (b 6), .ref (b 7), .ref (b 8), .ref (b 9), .ref (b 10), .ref (b 11)]], [ia ty (b 3) 57 r]]) (bsc := []) (bsr := [[ob (b 0) 9 [.int rf, .ref (b 1), .int tn, .int sp, .ref (b 2), .ref (b 3), .ref (b 4), .ref (b 5), .int ac, .ref (b 6), .ref (b 7), .ref (b 8), .ref (b 9), .ref (b 10), .ref (b 11)]], [ia ty (b 3) 57 r]]) [] [0, 1] 2 rfl (by decide +kernel) rfl rfl) rfl hl.1 rfl (Nat.le_of_ble_eq_true rfl) dX10_alarm_18 ⟨Nat.le_of_ble_eq_true rfl, Nat.le_of_ble_eq_true rfl⟩ (fun r_6 u_5 h_7 H locs hP hD hS => ?_)
    have h_7 : r_6 = (inv (Int32.toInt64 w9) 0 2) := h_7
    subst h_7
    have hP : va_P D vwCl (fl [[ob (b 0) 9 [.int rf, .ref (b 1), .int tn, .int sp, .ref (b 2), .ref (b 3), .ref (b 4), .ref (b 5), .int ac, .ref (b 6), .ref (b 7), .ref (b 8), .ref (b 9), .ref (b 10), .ref (b 11)]], [ia ty (b 3) 57 r]]) H := P_perm (po (bs := [[ob (b 0) 9 [.int rf, .ref (b 1), .int tn, .int sp, .ref (b 2), .ref (b 3), .ref (b 4), .ref (b 5), .int ac, .ref (b 6), .ref (b 7), .ref (b 8), .ref (b 9), .ref (b 10), .ref (b 11)]], [ia ty (b 3) 57 r]]) [0, 1] 2 rfl (by decide +kernel) rfl) hP
    have hD : va_D A (fl [[ob (b 0) 9 [.int rf, .ref (b 1), .int tn, .int sp, .ref (b 2), .ref (b 3), .ref (b 4), .ref (b 5), .int ac, .ref (b 6), .ref (b 7), .ref (b 8), .ref (b 9), .ref (b 10), .ref (b 11)]], [ia ty (b 3) 57 r]]) := D_perm (po (bs := [[ob (b 0) 9 [.int rf, .ref (b 1), .int tn, .int sp, .ref (b 2), .ref (b 3), .ref (b 4), .ref (b 5), .int ac, .ref (b 6), .ref (b 7), .ref (b 8), .ref (b 9), .ref (b 10), .ref (b 11)]], [ia ty (b 3) 57 r]]) [0, 1] 2 rfl (by decide +kernel) rfl) hD
    refine lv_if_ne (tgt := 28) hx hb dX10_alarm_21 (by decide) (fun c_8 => ?_) (fun c_8 => ?_)
    · skip
      refine lv_iconst (v := 0) hx hb dX10_alarm_28 (by decide) ?_
      refine cVi (As := [.int 0]) (rest := []) ⟨hx, hb, hml, hown, hts⟩ (c_X10_refused0 l D ty b rf tn sp ac) (cwV 1 hts gX10_alarm_X10_refused rfl rfl rfl (by decide +kernel) ⟨Nat.le_of_ble_eq_true rfl, Nat.le_of_ble_eq_true rfl⟩) hK hX hP hD hS hA (pk (bs := [[ob (b 0) 9 [.int rf, .ref (b 1), .int tn, .int sp, .ref (b 2), .ref (b 3), .ref (b 4), .ref (b 5), .int ac, .ref (b 6), .ref (b 7), .ref (b 8), .ref (b 9), .ref (b 10), .ref (b 11)]], [ia ty (b 3) 57 r]]) (bsc := [[ob (b 0) 9 [.int rf, .ref (b 1), .int tn, .int sp, .ref (b 2), .ref (b 3), .ref (b 4), .ref (b 5), .int ac, .ref (b 6), .ref (b 7), .ref (b 8), .ref (b 9), .ref (b 10), .ref (b 11)]]]) (bsr := [[ia ty (b 3) 57 r]]) [0] [1] 2 rfl (by decide +kernel) rfl rfl) (ci := 9) rfl 0 rfl rfl hl.1 rfl (Nat.le_of_ble_eq_true rfl) dX10_alarm_29 ⟨Nat.le_of_ble_eq_true rfl, Nat.le_of_ble_eq_true rfl⟩ (fun r_10 u_9 h_11 H locs hP hD hS => ?_)
      have h_11 : r_10 = 0 := h_11
      subst h_11
      have hP : va_P D vwCl (fl [[ob (b 0) 9 [.int 0, .ref (b 1), .int tn, .int sp, .ref (b 2), .ref (b 3), .ref (b 4), .ref (b 5), .int ac, .ref (b 6), .ref (b 7), .ref (b 8), .ref (b 9), .ref (b 10), .ref (b 11)]], [ia ty (b 3) 57 r]]) H := P_perm (po (bs := [[ob (b 0) 9 [.int 0, .ref (b 1), .int tn, .int sp, .ref (b 2), .ref (b 3), .ref (b 4), .ref (b 5), .int ac, .ref (b 6), .ref (b 7), .ref (b 8), .ref (b 9), .ref (b 10), .ref (b 11)]], [ia ty (b 3) 57 r]]) [0, 1] 2 rfl (by decide +kernel) rfl) hP
      have hD : va_D A (fl [[ob (b 0) 9 [.int 0, .ref (b 1), .int tn, .int sp, .ref (b 2), .ref (b 3), .ref (b 4), .ref (b 5), .int ac, .ref (b 6), .ref (b 7), .ref (b 8), .ref (b 9), .ref (b 10), .ref (b 11)]], [ia ty (b 3) 57 r]]) := D_perm (po (bs := [[ob (b 0) 9 [.int 0, .ref (b 1), .int tn, .int sp, .ref (b 2), .ref (b 3), .ref (b 4), .ref (b 5), .int ac, .ref (b 6), .ref (b 7), .ref (b 8), .ref (b 9), .ref (b 10), .ref (b 11)]], [ia ty (b 3) 57 r]]) [0, 1] 2 rfl (by decide +kernel) rfl) hD
      refine lv_if_eq (tgt := 39) hx hb dX10_alarm_32 (by decide) (fun c_12 => ?_) (fun c_12 => ?_)
      · skip
        obtain ⟨J, hJ⟩ : ∃ z, z = i9.toNatClampNeg := ⟨_, rfl⟩
        have nJ : i9 = nI J := by rw [hJ]; exact nI_self hc0.1
        have lJ : J < 4 := by rw [hJ]; exact nI_ltn hc0.1 (by decide) (show i9 < nI 4 from hc0.2)
        have hl : lv_has ls 3 [(0, .ref (b 0)), (1, .int (nI J)), (2, .int w9)] := by rw [← nJ]; exact hl
        obtain ⟨J2, hJ2⟩ : ∃ z, z = w9.toNatClampNeg := ⟨_, rfl⟩
        have qJ2 := inR_nat hc1 (by decide +kernel)
        have nJ2 : w9 = nI J2 := by rw [hJ2]; exact qJ2.1
        have lJ2 : J2 < 3 := by have q9 := qJ2.2.1; rw [← hJ2, show (2 : Int32).toInt = 2 from by decide +kernel] at q9; omega
        have hl : lv_has ls 3 [(0, .ref (b 0)), (1, .int (nI J)), (2, .int (nI J2))] := by rw [← nJ2]; exact hl
        refine lv_aload_n hx hb dX10_alarm_39 rfl (lv_at hl 0 rfl) ?_
        refine va_get (D := D) (ci := 9) (v := .ref (b 3)) (C := RX10) (T := TX10) (N := 15) hx hb hts i_X10 hown hK hP 0 rfl rfl 5 (by decide) (hts (Cond.fieldLink RX10 16 "BrownClockModel" "now" "[I") (List.mem_of_getElem? (i := 2) rfl)) (fun _ h9 => h9) rfl dX10_alarm_40 ?_
        refine lv_bipush (v := 27) hx hb dX10_alarm_43 (by decide) ?_
        refine lv_iconst (v := 3) hx hb dX10_alarm_45 (by decide) ?_
        refine lv_iload_n hx hb dX10_alarm_46 rfl (lv_at hl 1 rfl) ?_
        refine k_imul (v := (nI (3 * J))) hx hb dX10_alarm_47 (nI_mul (3) (J)) ?_
        refine k_iadd (v := (nI (27 + 3 * J))) hx hb dX10_alarm_48 (nI_add (27) (3 * J)) ?_
        refine lv_iload_n hx hb dX10_alarm_49 rfl (lv_at hl 2 rfl) ?_
        refine k_iadd (v := (nI (27 + 3 * J + J2))) hx hb dX10_alarm_50 (nI_add (27 + 3 * J) (J2)) ?_
        refine k_iald hx hb hK hP 1 rfl (27 + 3 * J + J2) rfl (by omega) (Nat.le_of_ble_eq_true rfl) (v := r (27 + 3 * J + J2)) rfl dX10_alarm_51 ?_
        have hPn := hP
        have hDn := hD
        have hSn := hS
        subst hJ
        have hP := hPn
        have hD := hDn
        have hS := hSn
        have hPn := hP
        have hDn := hD
        have hSn := hS
        subst hJ2
        have hP := hPn
        have hD := hDn
        have hS := hSn
        have hP : va_P D vwCl (fl [[ob (b 0) 9 [.int 0, .ref (b 1), .int tn, .int sp, .ref (b 2), .ref (b 3), .ref (b 4), .ref (b 5), .int ac, .ref (b 6), .ref (b 7), .ref (b 8), .ref (b 9), .ref (b 10), .ref (b 11)]], [ia ty (b 3) 57 r]]) H := hP
        have hD : va_D A (fl [[ob (b 0) 9 [.int 0, .ref (b 1), .int tn, .int sp, .ref (b 2), .ref (b 3), .ref (b 4), .ref (b 5), .int ac, .ref (b 6), .ref (b 7), .ref (b 8), .ref (b 9), .ref (b 10), .ref (b 11)]], [ia ty (b 3) 57 r]]) := hD
        exact end_i (bs' := (fun (_ : Unit) => [[ob (b 0) 9 [.int 0, .ref (b 1), .int tn, .int sp, .ref (b 2), .ref (b 3), .ref (b 4), .ref (b 5), .int ac, .ref (b 6), .ref (b 7), .ref (b 8), .ref (b 9), .ref (b 10), .ref (b 11)]], [ia ty (b 3) 57 r]])) () hx hb hr hlocks hP hD hS rfl (Nat.le_of_ble_eq_true rfl) (Nat.le_of_ble_eq_true rfl) dX10_alarm_52
      · exact absurd (by decide) c_12
    · first | exact absurd c_8 (invR_y hc1 (by decide +kernel) (by decide +kernel)) | exact absurd (invR_y hc1 (by decide +kernel) (by decide +kernel)) c_8
  · first | exact absurd c_4 (invI_y hc0 (by decide +kernel) (by decide +kernel)) | exact absurd (invI_y hc0 (by decide +kernel) (by decide +kernel)) c_4
set_option maxHeartbeats 4000000 in
set_option maxRecDepth 100000 in
theorem c_X10_alarm_n0 (l : Launch) (D : va_G) (ty : Nat → ClassId) (b : Nat → Nat) (rf tn sp ac : Int32) (r : Nat → Int32) (i9 w9 : Int32) (hc0 : ¬ (inI i9 4)) : CTi l yX10_alarm wsX10_alarm ({ frames := 2, cells := 0, slots := 0, locals := 45 }) D ty [.ref (b 0), .int i9, .int w9] [[ob (b 0) 9 [.int rf, .ref (b 1), .int tn, .int sp, .ref (b 2), .ref (b 3), .ref (b 4), .ref (b 5), .int ac, .ref (b 6), .ref (b 7), .ref (b 8), .ref (b 9), .ref (b 10), .ref (b 11)]]] (fun (RET : Int32) (_ : Unit) => RET = 0) (fun (_ : Unit) => [[ob (b 0) 9 [.int 1, .ref (b 1), .int tn, .int sp, .ref (b 2), .ref (b 3), .ref (b 4), .ref (b 5), .int ac, .ref (b 6), .ref (b 7), .ref (b 8), .ref (b 9), .ref (b 10), .ref (b 11)]]]) := by
  refine CTi_of cX10_alarm 3 (some .int) (by decide) rfl (Nat.le_of_ble_eq_true rfl) ?_
  intro p e s m args below meth c A hx hb hr hml hown hlocks hin hts hA hX hK hP hD ls hl
  have hown : s.vm.findClass RX10 = some m.cls := hown
  have hS : va_S A s.heap s.heap [] := va_S.rf
  have hl : lv_has ls 3 [(0, .ref (b 0)), (1, .int i9), (2, .int w9)] := hl
  refine lv_aload_n hx hb dX10_alarm_0 rfl (lv_at hl 0 rfl) ?_
  refine lv_iload_n hx hb dX10_alarm_1 rfl (lv_at hl 1 rfl) ?_
  refine cSi (As := [.int i9]) (rest := [.ref (b 0)]) ⟨hx, hb, hml, hown, hts⟩ (c_X10_isAlarm l D ty i9) (va_cwS 1 hts gX10_alarm_X10_isAlarm rfl rfl rfl (by decide +kernel) ⟨Nat.le_of_ble_eq_true rfl, Nat.le_of_ble_eq_true rfl⟩) hK hX hP hD hS hA (pk (bs := [[ob (b 0) 9 [.int rf, .ref (b 1), .int tn, .int sp, .ref (b 2), .ref (b 3), .ref (b 4), .ref (b 5), .int ac, .ref (b 6), .ref (b 7), .ref (b 8), .ref (b 9), .ref (b 10), .ref (b 11)]]]) (bsc := []) (bsr := [[ob (b 0) 9 [.int rf, .ref (b 1), .int tn, .int sp, .ref (b 2), .ref (b 3), .ref (b 4), .ref (b 5), .int ac, .ref (b 6), .ref (b 7), .ref (b 8), .ref (b 9), .ref (b 10), .ref (b 11)]]]) [] [0] 1 rfl (by decide +kernel) rfl rfl) rfl hl.1 rfl (Nat.le_of_ble_eq_true rfl) dX10_alarm_2 ⟨Nat.le_of_ble_eq_true rfl, Nat.le_of_ble_eq_true rfl⟩ (fun r_2 u_1 h_3 H locs hP hD hS => ?_)
  have h_3 : r_2 = (inv (Int32.toInt64 i9) 0 3) := h_3
  subst h_3
  have hP : va_P D vwCl (fl [[ob (b 0) 9 [.int rf, .ref (b 1), .int tn, .int sp, .ref (b 2), .ref (b 3), .ref (b 4), .ref (b 5), .int ac, .ref (b 6), .ref (b 7), .ref (b 8), .ref (b 9), .ref (b 10), .ref (b 11)]]]) H := P_perm (po (bs := [[ob (b 0) 9 [.int rf, .ref (b 1), .int tn, .int sp, .ref (b 2), .ref (b 3), .ref (b 4), .ref (b 5), .int ac, .ref (b 6), .ref (b 7), .ref (b 8), .ref (b 9), .ref (b 10), .ref (b 11)]]]) [0] 1 rfl (by decide +kernel) rfl) hP
  have hD : va_D A (fl [[ob (b 0) 9 [.int rf, .ref (b 1), .int tn, .int sp, .ref (b 2), .ref (b 3), .ref (b 4), .ref (b 5), .int ac, .ref (b 6), .ref (b 7), .ref (b 8), .ref (b 9), .ref (b 10), .ref (b 11)]]]) := D_perm (po (bs := [[ob (b 0) 9 [.int rf, .ref (b 1), .int tn, .int sp, .ref (b 2), .ref (b 3), .ref (b 4), .ref (b 5), .int ac, .ref (b 6), .ref (b 7), .ref (b 8), .ref (b 9), .ref (b 10), .ref (b 11)]]]) [0] 1 rfl (by decide +kernel) rfl) hD
  refine lv_if_ne (tgt := 12) hx hb dX10_alarm_5 (by decide) (fun c_4 => ?_) (fun c_4 => ?_)
  · first | exact absurd c_4 (invI_n hc0 (by decide +kernel) (by decide +kernel)) | exact absurd (invI_n hc0 (by decide +kernel) (by decide +kernel)) c_4
  · skip
    refine lv_iconst (v := 1) hx hb dX10_alarm_8 (by decide) ?_
    refine lv_goto (tgt := 29) hx hb dX10_alarm_9 (by decide) ?_
    refine cVi (As := [.int 1]) (rest := []) ⟨hx, hb, hml, hown, hts⟩ (c_X10_refused1 l D ty b rf tn sp ac 1 (by decide)) (cwV 1 hts gX10_alarm_X10_refused rfl rfl rfl (by decide +kernel) ⟨Nat.le_of_ble_eq_true rfl, Nat.le_of_ble_eq_true rfl⟩) hK hX hP hD hS hA (pk (bs := [[ob (b 0) 9 [.int rf, .ref (b 1), .int tn, .int sp, .ref (b 2), .ref (b 3), .ref (b 4), .ref (b 5), .int ac, .ref (b 6), .ref (b 7), .ref (b 8), .ref (b 9), .ref (b 10), .ref (b 11)]]]) (bsc := [[ob (b 0) 9 [.int rf, .ref (b 1), .int tn, .int sp, .ref (b 2), .ref (b 3), .ref (b 4), .ref (b 5), .int ac, .ref (b 6), .ref (b 7), .ref (b 8), .ref (b 9), .ref (b 10), .ref (b 11)]]]) (bsr := []) [0] [] 1 rfl (by decide +kernel) rfl rfl) (ci := 9) rfl 0 rfl rfl hl.1 rfl (Nat.le_of_ble_eq_true rfl) dX10_alarm_29 ⟨Nat.le_of_ble_eq_true rfl, Nat.le_of_ble_eq_true rfl⟩ (fun r_6 u_5 h_7 H locs hP hD hS => ?_)
    have h_7 : r_6 = 1 := h_7
    subst h_7
    have hP : va_P D vwCl (fl [[ob (b 0) 9 [.int 1, .ref (b 1), .int tn, .int sp, .ref (b 2), .ref (b 3), .ref (b 4), .ref (b 5), .int ac, .ref (b 6), .ref (b 7), .ref (b 8), .ref (b 9), .ref (b 10), .ref (b 11)]]]) H := P_perm (po (bs := [[ob (b 0) 9 [.int 1, .ref (b 1), .int tn, .int sp, .ref (b 2), .ref (b 3), .ref (b 4), .ref (b 5), .int ac, .ref (b 6), .ref (b 7), .ref (b 8), .ref (b 9), .ref (b 10), .ref (b 11)]]]) [0] 1 rfl (by decide +kernel) rfl) hP
    have hD : va_D A (fl [[ob (b 0) 9 [.int 1, .ref (b 1), .int tn, .int sp, .ref (b 2), .ref (b 3), .ref (b 4), .ref (b 5), .int ac, .ref (b 6), .ref (b 7), .ref (b 8), .ref (b 9), .ref (b 10), .ref (b 11)]]]) := D_perm (po (bs := [[ob (b 0) 9 [.int 1, .ref (b 1), .int tn, .int sp, .ref (b 2), .ref (b 3), .ref (b 4), .ref (b 5), .int ac, .ref (b 6), .ref (b 7), .ref (b 8), .ref (b 9), .ref (b 10), .ref (b 11)]]]) [0] 1 rfl (by decide +kernel) rfl) hD
    refine lv_if_eq (tgt := 39) hx hb dX10_alarm_32 (by decide) (fun c_8 => ?_) (fun c_8 => ?_)
    · exact absurd c_8 (by decide)
    · skip
      refine lv_iconst (v := 0) hx hb dX10_alarm_35 (by decide) ?_
      refine lv_goto (tgt := 52) hx hb dX10_alarm_36 (by decide) ?_
      have hP : va_P D vwCl (fl [[ob (b 0) 9 [.int 1, .ref (b 1), .int tn, .int sp, .ref (b 2), .ref (b 3), .ref (b 4), .ref (b 5), .int ac, .ref (b 6), .ref (b 7), .ref (b 8), .ref (b 9), .ref (b 10), .ref (b 11)]]]) H := hP
      have hD : va_D A (fl [[ob (b 0) 9 [.int 1, .ref (b 1), .int tn, .int sp, .ref (b 2), .ref (b 3), .ref (b 4), .ref (b 5), .int ac, .ref (b 6), .ref (b 7), .ref (b 8), .ref (b 9), .ref (b 10), .ref (b 11)]]]) := hD
      exact end_i (bs' := (fun (_ : Unit) => [[ob (b 0) 9 [.int 1, .ref (b 1), .int tn, .int sp, .ref (b 2), .ref (b 3), .ref (b 4), .ref (b 5), .int ac, .ref (b 6), .ref (b 7), .ref (b 8), .ref (b 9), .ref (b 10), .ref (b 11)]]])) () hx hb hr hlocks hP hD hS (by first | rfl | decide | simp [c_4, c_8]) (Nat.le_of_ble_eq_true rfl) (Nat.le_of_ble_eq_true rfl) dX10_alarm_52
set_option maxHeartbeats 4000000 in
set_option maxRecDepth 100000 in
theorem c_X10_alarm_n1 (l : Launch) (D : va_G) (ty : Nat → ClassId) (b : Nat → Nat) (rf tn sp ac : Int32) (r : Nat → Int32) (i9 w9 : Int32) (hc0 : inI i9 4) (hc1 : ¬ (inR w9 0 2)) : CTi l yX10_alarm wsX10_alarm ({ frames := 2, cells := 0, slots := 0, locals := 45 }) D ty [.ref (b 0), .int i9, .int w9] [[ob (b 0) 9 [.int rf, .ref (b 1), .int tn, .int sp, .ref (b 2), .ref (b 3), .ref (b 4), .ref (b 5), .int ac, .ref (b 6), .ref (b 7), .ref (b 8), .ref (b 9), .ref (b 10), .ref (b 11)]]] (fun (RET : Int32) (_ : Unit) => RET = 0) (fun (_ : Unit) => [[ob (b 0) 9 [.int 2, .ref (b 1), .int tn, .int sp, .ref (b 2), .ref (b 3), .ref (b 4), .ref (b 5), .int ac, .ref (b 6), .ref (b 7), .ref (b 8), .ref (b 9), .ref (b 10), .ref (b 11)]]]) := by
  refine CTi_of cX10_alarm 3 (some .int) (by decide) rfl (Nat.le_of_ble_eq_true rfl) ?_
  intro p e s m args below meth c A hx hb hr hml hown hlocks hin hts hA hX hK hP hD ls hl
  have hown : s.vm.findClass RX10 = some m.cls := hown
  have hS : va_S A s.heap s.heap [] := va_S.rf
  have hl : lv_has ls 3 [(0, .ref (b 0)), (1, .int i9), (2, .int w9)] := hl
  refine lv_aload_n hx hb dX10_alarm_0 rfl (lv_at hl 0 rfl) ?_
  refine lv_iload_n hx hb dX10_alarm_1 rfl (lv_at hl 1 rfl) ?_
  refine cSi (As := [.int i9]) (rest := [.ref (b 0)]) ⟨hx, hb, hml, hown, hts⟩ (c_X10_isAlarm l D ty i9) (va_cwS 1 hts gX10_alarm_X10_isAlarm rfl rfl rfl (by decide +kernel) ⟨Nat.le_of_ble_eq_true rfl, Nat.le_of_ble_eq_true rfl⟩) hK hX hP hD hS hA (pk (bs := [[ob (b 0) 9 [.int rf, .ref (b 1), .int tn, .int sp, .ref (b 2), .ref (b 3), .ref (b 4), .ref (b 5), .int ac, .ref (b 6), .ref (b 7), .ref (b 8), .ref (b 9), .ref (b 10), .ref (b 11)]]]) (bsc := []) (bsr := [[ob (b 0) 9 [.int rf, .ref (b 1), .int tn, .int sp, .ref (b 2), .ref (b 3), .ref (b 4), .ref (b 5), .int ac, .ref (b 6), .ref (b 7), .ref (b 8), .ref (b 9), .ref (b 10), .ref (b 11)]]]) [] [0] 1 rfl (by decide +kernel) rfl rfl) rfl hl.1 rfl (Nat.le_of_ble_eq_true rfl) dX10_alarm_2 ⟨Nat.le_of_ble_eq_true rfl, Nat.le_of_ble_eq_true rfl⟩ (fun r_2 u_1 h_3 H locs hP hD hS => ?_)
  have h_3 : r_2 = (inv (Int32.toInt64 i9) 0 3) := h_3
  subst h_3
  have hP : va_P D vwCl (fl [[ob (b 0) 9 [.int rf, .ref (b 1), .int tn, .int sp, .ref (b 2), .ref (b 3), .ref (b 4), .ref (b 5), .int ac, .ref (b 6), .ref (b 7), .ref (b 8), .ref (b 9), .ref (b 10), .ref (b 11)]]]) H := P_perm (po (bs := [[ob (b 0) 9 [.int rf, .ref (b 1), .int tn, .int sp, .ref (b 2), .ref (b 3), .ref (b 4), .ref (b 5), .int ac, .ref (b 6), .ref (b 7), .ref (b 8), .ref (b 9), .ref (b 10), .ref (b 11)]]]) [0] 1 rfl (by decide +kernel) rfl) hP
  have hD : va_D A (fl [[ob (b 0) 9 [.int rf, .ref (b 1), .int tn, .int sp, .ref (b 2), .ref (b 3), .ref (b 4), .ref (b 5), .int ac, .ref (b 6), .ref (b 7), .ref (b 8), .ref (b 9), .ref (b 10), .ref (b 11)]]]) := D_perm (po (bs := [[ob (b 0) 9 [.int rf, .ref (b 1), .int tn, .int sp, .ref (b 2), .ref (b 3), .ref (b 4), .ref (b 5), .int ac, .ref (b 6), .ref (b 7), .ref (b 8), .ref (b 9), .ref (b 10), .ref (b 11)]]]) [0] 1 rfl (by decide +kernel) rfl) hD
  refine lv_if_ne (tgt := 12) hx hb dX10_alarm_5 (by decide) (fun c_4 => ?_) (fun c_4 => ?_)
  · skip
    refine lv_iload_n hx hb dX10_alarm_12 rfl (lv_at hl 2 rfl) ?_
    refine lv_i2l (v := (Int32.toInt64 w9)) hx hb dX10_alarm_13 rfl ?_
    refine lv_lconst (v := 0) hx hb dX10_alarm_14 (by decide) ?_
    refine lv_ldc2 hx hb hown (hts (Cond.constantLong RX10 142 (2)) (List.mem_of_getElem? (i := 1) rfl)) dX10_alarm_15 ?_
    refine cSi (As := [.long (Int32.toInt64 w9), .long 0, .long 2]) (rest := [.ref (b 0)]) ⟨hx, hb, hml, hown, hts⟩ (c_X10_in l D ty (Int32.toInt64 w9) 0 2) (va_cwS 3 hts gX10_alarm_X10_in rfl rfl rfl (by decide +kernel) ⟨Nat.le_of_ble_eq_true rfl, Nat.le_of_ble_eq_true rfl⟩) hK hX hP hD hS hA (pk (bs := [[ob (b 0) 9 [.int rf, .ref (b 1), .int tn, .int sp, .ref (b 2), .ref (b 3), .ref (b 4), .ref (b 5), .int ac, .ref (b 6), .ref (b 7), .ref (b 8), .ref (b 9), .ref (b 10), .ref (b 11)]]]) (bsc := []) (bsr := [[ob (b 0) 9 [.int rf, .ref (b 1), .int tn, .int sp, .ref (b 2), .ref (b 3), .ref (b 4), .ref (b 5), .int ac, .ref (b 6), .ref (b 7), .ref (b 8), .ref (b 9), .ref (b 10), .ref (b 11)]]]) [] [0] 1 rfl (by decide +kernel) rfl rfl) rfl hl.1 rfl (Nat.le_of_ble_eq_true rfl) dX10_alarm_18 ⟨Nat.le_of_ble_eq_true rfl, Nat.le_of_ble_eq_true rfl⟩ (fun r_6 u_5 h_7 H locs hP hD hS => ?_)
    have h_7 : r_6 = (inv (Int32.toInt64 w9) 0 2) := h_7
    subst h_7
    have hP : va_P D vwCl (fl [[ob (b 0) 9 [.int rf, .ref (b 1), .int tn, .int sp, .ref (b 2), .ref (b 3), .ref (b 4), .ref (b 5), .int ac, .ref (b 6), .ref (b 7), .ref (b 8), .ref (b 9), .ref (b 10), .ref (b 11)]]]) H := P_perm (po (bs := [[ob (b 0) 9 [.int rf, .ref (b 1), .int tn, .int sp, .ref (b 2), .ref (b 3), .ref (b 4), .ref (b 5), .int ac, .ref (b 6), .ref (b 7), .ref (b 8), .ref (b 9), .ref (b 10), .ref (b 11)]]]) [0] 1 rfl (by decide +kernel) rfl) hP
    have hD : va_D A (fl [[ob (b 0) 9 [.int rf, .ref (b 1), .int tn, .int sp, .ref (b 2), .ref (b 3), .ref (b 4), .ref (b 5), .int ac, .ref (b 6), .ref (b 7), .ref (b 8), .ref (b 9), .ref (b 10), .ref (b 11)]]]) := D_perm (po (bs := [[ob (b 0) 9 [.int rf, .ref (b 1), .int tn, .int sp, .ref (b 2), .ref (b 3), .ref (b 4), .ref (b 5), .int ac, .ref (b 6), .ref (b 7), .ref (b 8), .ref (b 9), .ref (b 10), .ref (b 11)]]]) [0] 1 rfl (by decide +kernel) rfl) hD
    refine lv_if_ne (tgt := 28) hx hb dX10_alarm_21 (by decide) (fun c_8 => ?_) (fun c_8 => ?_)
    · first | exact absurd c_8 (invR_n hc1 (by decide +kernel) (by decide +kernel)) | exact absurd (invR_n hc1 (by decide +kernel) (by decide +kernel)) c_8
    · skip
      refine lv_iconst (v := 2) hx hb dX10_alarm_24 (by decide) ?_
      refine lv_goto (tgt := 29) hx hb dX10_alarm_25 (by decide) ?_
      refine cVi (As := [.int 2]) (rest := []) ⟨hx, hb, hml, hown, hts⟩ (c_X10_refused1 l D ty b rf tn sp ac 2 (by decide)) (cwV 1 hts gX10_alarm_X10_refused rfl rfl rfl (by decide +kernel) ⟨Nat.le_of_ble_eq_true rfl, Nat.le_of_ble_eq_true rfl⟩) hK hX hP hD hS hA (pk (bs := [[ob (b 0) 9 [.int rf, .ref (b 1), .int tn, .int sp, .ref (b 2), .ref (b 3), .ref (b 4), .ref (b 5), .int ac, .ref (b 6), .ref (b 7), .ref (b 8), .ref (b 9), .ref (b 10), .ref (b 11)]]]) (bsc := [[ob (b 0) 9 [.int rf, .ref (b 1), .int tn, .int sp, .ref (b 2), .ref (b 3), .ref (b 4), .ref (b 5), .int ac, .ref (b 6), .ref (b 7), .ref (b 8), .ref (b 9), .ref (b 10), .ref (b 11)]]]) (bsr := []) [0] [] 1 rfl (by decide +kernel) rfl rfl) (ci := 9) rfl 0 rfl rfl hl.1 rfl (Nat.le_of_ble_eq_true rfl) dX10_alarm_29 ⟨Nat.le_of_ble_eq_true rfl, Nat.le_of_ble_eq_true rfl⟩ (fun r_10 u_9 h_11 H locs hP hD hS => ?_)
      have h_11 : r_10 = 1 := h_11
      subst h_11
      have hP : va_P D vwCl (fl [[ob (b 0) 9 [.int 2, .ref (b 1), .int tn, .int sp, .ref (b 2), .ref (b 3), .ref (b 4), .ref (b 5), .int ac, .ref (b 6), .ref (b 7), .ref (b 8), .ref (b 9), .ref (b 10), .ref (b 11)]]]) H := P_perm (po (bs := [[ob (b 0) 9 [.int 2, .ref (b 1), .int tn, .int sp, .ref (b 2), .ref (b 3), .ref (b 4), .ref (b 5), .int ac, .ref (b 6), .ref (b 7), .ref (b 8), .ref (b 9), .ref (b 10), .ref (b 11)]]]) [0] 1 rfl (by decide +kernel) rfl) hP
      have hD : va_D A (fl [[ob (b 0) 9 [.int 2, .ref (b 1), .int tn, .int sp, .ref (b 2), .ref (b 3), .ref (b 4), .ref (b 5), .int ac, .ref (b 6), .ref (b 7), .ref (b 8), .ref (b 9), .ref (b 10), .ref (b 11)]]]) := D_perm (po (bs := [[ob (b 0) 9 [.int 2, .ref (b 1), .int tn, .int sp, .ref (b 2), .ref (b 3), .ref (b 4), .ref (b 5), .int ac, .ref (b 6), .ref (b 7), .ref (b 8), .ref (b 9), .ref (b 10), .ref (b 11)]]]) [0] 1 rfl (by decide +kernel) rfl) hD
      refine lv_if_eq (tgt := 39) hx hb dX10_alarm_32 (by decide) (fun c_12 => ?_) (fun c_12 => ?_)
      · exact absurd c_12 (by decide)
      · skip
        refine lv_iconst (v := 0) hx hb dX10_alarm_35 (by decide) ?_
        refine lv_goto (tgt := 52) hx hb dX10_alarm_36 (by decide) ?_
        have hP : va_P D vwCl (fl [[ob (b 0) 9 [.int 2, .ref (b 1), .int tn, .int sp, .ref (b 2), .ref (b 3), .ref (b 4), .ref (b 5), .int ac, .ref (b 6), .ref (b 7), .ref (b 8), .ref (b 9), .ref (b 10), .ref (b 11)]]]) H := hP
        have hD : va_D A (fl [[ob (b 0) 9 [.int 2, .ref (b 1), .int tn, .int sp, .ref (b 2), .ref (b 3), .ref (b 4), .ref (b 5), .int ac, .ref (b 6), .ref (b 7), .ref (b 8), .ref (b 9), .ref (b 10), .ref (b 11)]]]) := hD
        exact end_i (bs' := (fun (_ : Unit) => [[ob (b 0) 9 [.int 2, .ref (b 1), .int tn, .int sp, .ref (b 2), .ref (b 3), .ref (b 4), .ref (b 5), .int ac, .ref (b 6), .ref (b 7), .ref (b 8), .ref (b 9), .ref (b 10), .ref (b 11)]]])) () hx hb hr hlocks hP hD hS (by first | rfl | decide | simp [c_4, c_8, c_12]) (Nat.le_of_ble_eq_true rfl) (Nat.le_of_ble_eq_true rfl) dX10_alarm_52
  · first | exact absurd c_4 (invI_y hc0 (by decide +kernel) (by decide +kernel)) | exact absurd (invI_y hc0 (by decide +kernel) (by decide +kernel)) c_4
