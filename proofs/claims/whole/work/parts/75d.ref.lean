set_option maxHeartbeats 4000000 in
set_option maxRecDepth 100000 in
theorem c_X10_fresh (l : Launch) (D : va_G) (ty : Nat → ClassId) (b : Nat → Nat) (rf ac : Int32) (ln pos : Nat) (cd : Nat → Int32) (mk hi9 : Nat) (hl6 : ln ≤ 60) (hp6 : pos < 900) (hmk : mk < 256) (hhi : hi9 < 8) : CTi l yX10_fresh wsX10_fresh ({ frames := 2, cells := 0, slots := 0, locals := 50 }) D ty [.ref (b 0), .int (nI mk), .int (nI hi9)] [[ob (b 0) 9 [.int rf, .ref (b 1), .int (nI ln), .int (nI pos), .ref (b 2), .ref (b 3), .ref (b 4), .ref (b 5), .int ac, .ref (b 6), .ref (b 7), .ref (b 8), .ref (b 9), .ref (b 10), .ref (b 11)]], [ia ty (b 1) 60 cd]] (fun (RET : Int32) (_ : Unit) => RET = (onV (freshV cd ln hi9 mk pos))) (fun (_ : Unit) => [[ob (b 0) 9 [.int rf, .ref (b 1), .int (nI ln), .int (nI (freshP cd ln hi9 mk pos)), .ref (b 2), .ref (b 3), .ref (b 4), .ref (b 5), .int ac, .ref (b 6), .ref (b 7), .ref (b 8), .ref (b 9), .ref (b 10), .ref (b 11)]], [ia ty (b 1) 60 cd]]) := by
  refine CTi_of cX10_fresh 4 (some .int) (by decide) rfl (Nat.le_of_ble_eq_true rfl) ?_
  intro p e s m args below meth c A hx hb hr hml hown hlocks hin hts hA hX hK hP hD ls hl
  have hown : s.vm.findClass RX10 = some m.cls := hown
  have hS : va_S A s.heap s.heap [] := va_S.rf
  have i_X10 : ∀ z ∈ wsX100, z ∈ wsX10_fresh := fun z h => List.mem_cons_of_mem _ (List.mem_append_right _ h)
  have hl : lv_has ls 4 [(0, .ref (b 0)), (1, .int (nI mk)), (2, .int (nI hi9))] := hl
  refine lv_aload_n hx hb dX10_fresh_0 rfl (lv_at hl 0 rfl) ?_
  refine lv_iconst (v := 1) hx hb dX10_fresh_1 (by decide) ?_
  refine lv_iload_n hx hb dX10_fresh_2 rfl (lv_at hl 2 rfl) ?_
  refine cVi (As := [.int 1, .int (nI hi9)]) (rest := []) ⟨hx, hb, hml, hown, hts⟩ (c_X10_number1 l D ty b rf ac ln pos cd hi9 (hl6) ((by omega)) (by omega)) (cwV 2 hts gX10_fresh_X10_number rfl rfl rfl (by decide +kernel) ⟨Nat.le_of_ble_eq_true rfl, Nat.le_of_ble_eq_true rfl⟩) hK hX hP hD hS hA (pk (bs := [[ob (b 0) 9 [.int rf, .ref (b 1), .int (nI ln), .int (nI pos), .ref (b 2), .ref (b 3), .ref (b 4), .ref (b 5), .int ac, .ref (b 6), .ref (b 7), .ref (b 8), .ref (b 9), .ref (b 10), .ref (b 11)]], [ia ty (b 1) 60 cd]]) (bsc := [[ob (b 0) 9 [.int rf, .ref (b 1), .int (nI ln), .int (nI pos), .ref (b 2), .ref (b 3), .ref (b 4), .ref (b 5), .int ac, .ref (b 6), .ref (b 7), .ref (b 8), .ref (b 9), .ref (b 10), .ref (b 11)]], [ia ty (b 1) 60 cd]]) (bsr := []) [0, 1] [] 2 rfl (by decide +kernel) rfl rfl) (ci := 9) rfl 0 rfl rfl hl.1 rfl (Nat.le_of_ble_eq_true rfl) dX10_fresh_3 ⟨Nat.le_of_ble_eq_true rfl, Nat.le_of_ble_eq_true rfl⟩ (fun r_2 u_1 h_3 H locs hP hD hS => ?_)
  have h_3 : r_2 = (onV (numV cd ln [1] hi9 0 pos)) := h_3
  subst h_3
  have hP : va_P D vwCl (fl [[ob (b 0) 9 [.int rf, .ref (b 1), .int (nI ln), .int (nI (numP cd ln [1] hi9 0 pos)), .ref (b 2), .ref (b 3), .ref (b 4), .ref (b 5), .int ac, .ref (b 6), .ref (b 7), .ref (b 8), .ref (b 9), .ref (b 10), .ref (b 11)]], [ia ty (b 1) 60 cd]]) H := P_perm (po (bs := [[ob (b 0) 9 [.int rf, .ref (b 1), .int (nI ln), .int (nI (numP cd ln [1] hi9 0 pos)), .ref (b 2), .ref (b 3), .ref (b 4), .ref (b 5), .int ac, .ref (b 6), .ref (b 7), .ref (b 8), .ref (b 9), .ref (b 10), .ref (b 11)]], [ia ty (b 1) 60 cd]]) [0, 1] 2 rfl (by decide +kernel) rfl) hP
  have hD : va_D A (fl [[ob (b 0) 9 [.int rf, .ref (b 1), .int (nI ln), .int (nI (numP cd ln [1] hi9 0 pos)), .ref (b 2), .ref (b 3), .ref (b 4), .ref (b 5), .int ac, .ref (b 6), .ref (b 7), .ref (b 8), .ref (b 9), .ref (b 10), .ref (b 11)]], [ia ty (b 1) 60 cd]]) := D_perm (po (bs := [[ob (b 0) 9 [.int rf, .ref (b 1), .int (nI ln), .int (nI (numP cd ln [1] hi9 0 pos)), .ref (b 2), .ref (b 3), .ref (b 4), .ref (b 5), .int ac, .ref (b 6), .ref (b 7), .ref (b 8), .ref (b 9), .ref (b 10), .ref (b 11)]], [ia ty (b 1) 60 cd]]) [0, 1] 2 rfl (by decide +kernel) rfl) hD
  rcases opt_or (numV cd ln [1] hi9 0 pos) with hq0 | ⟨n0, hq0⟩
  · have hle0 := hq0
    refine W.eq (g2 := F0 m 6 ls [.int (-99999999)]) (by rw [hq0]; rfl) ?_
    refine lv_istore_n (lv' := [(3, .int (-99999999)), (0, .ref (b 0)), (1, .int (nI mk)), (2, .int (nI hi9))]) hx hb dX10_fresh_6 rfl hl (by decide) rfl (fun ls hl => ?_)
    refine lv_iload_n hx hb dX10_fresh_7 rfl (lv_at hl 0 rfl) ?_
    refine lv_ldc hx hb hown (hts (Cond.constant RX10 53 (-99999999)) (List.mem_of_getElem? (i := 1) rfl)) dX10_fresh_8 ?_
    refine lv_icmp_eq (tgt := 35) hx hb dX10_fresh_10 (by decide) (fun c_4 => ?_) (fun c_4 => ?_)
    · skip
      refine lv_iload_n hx hb dX10_fresh_35 rfl (lv_at hl 0 rfl) ?_
      have hc9 : isDig cd ln pos ∧ digN cd pos ≤ hi9 ∧ bitN mk (digN cd pos) = 0 ∨ True := Or.inr trivial
      have h1n := num1_none hq0
      have hF := fresh_n (cd := cd) (ln := ln) (hi := hi9) (mk := mk) (pos := pos) (fun q => h1n.1 ⟨q.1, q.2.1⟩)
      have hP : va_P D vwCl (fl [[ob (b 0) 9 [.int rf, .ref (b 1), .int (nI ln), .int (nI (freshP cd ln hi9 mk pos)), .ref (b 2), .ref (b 3), .ref (b 4), .ref (b 5), .int ac, .ref (b 6), .ref (b 7), .ref (b 8), .ref (b 9), .ref (b 10), .ref (b 11)]], [ia ty (b 1) 60 cd]]) H := by rw [hF.2]; rw [h1n.2] at hP; exact hP
      have hD : va_D A (fl [[ob (b 0) 9 [.int rf, .ref (b 1), .int (nI ln), .int (nI (freshP cd ln hi9 mk pos)), .ref (b 2), .ref (b 3), .ref (b 4), .ref (b 5), .int ac, .ref (b 6), .ref (b 7), .ref (b 8), .ref (b 9), .ref (b 10), .ref (b 11)]], [ia ty (b 1) 60 cd]]) := (D_same2 hD [(b 0), (b 1)] rfl rfl)
      exact end_i (bs' := (fun (_ : Unit) => [[ob (b 0) 9 [.int rf, .ref (b 1), .int (nI ln), .int (nI (freshP cd ln hi9 mk pos)), .ref (b 2), .ref (b 3), .ref (b 4), .ref (b 5), .int ac, .ref (b 6), .ref (b 7), .ref (b 8), .ref (b 9), .ref (b 10), .ref (b 11)]], [ia ty (b 1) 60 cd]])) () hx hb hr hlocks hP hD hS (by rw [hF.1]; rfl) (Nat.le_of_ble_eq_true rfl) (Nat.le_of_ble_eq_true rfl) dX10_fresh_36
    · exact absurd (by decide) c_4
  · have hle0 := numV_le hq0 (Nat.zero_le _)
    refine W.eq (g2 := F0 m 6 ls [.int (nI n0)]) (by rw [hq0]; rfl) ?_
    refine lv_istore_n (lv' := [(3, .int (nI n0)), (0, .ref (b 0)), (1, .int (nI mk)), (2, .int (nI hi9))]) hx hb dX10_fresh_6 rfl hl (by decide) rfl (fun ls hl => ?_)
    refine lv_iload_n hx hb dX10_fresh_7 rfl (lv_at hl 0 rfl) ?_
    refine lv_ldc hx hb hown (hts (Cond.constant RX10 53 (-99999999)) (List.mem_of_getElem? (i := 1) rfl)) dX10_fresh_8 ?_
    refine lv_icmp_eq (tgt := 35) hx hb dX10_fresh_10 (by decide) (fun c_5 => ?_) (fun c_5 => ?_)
    · first | exact absurd c_5 (nI_nn (n := n0) (by omega)) | exact absurd (nI_nn (n := n0) (by omega)) c_5
    · skip
      refine lv_iload_n hx hb dX10_fresh_13 rfl (lv_at hl 2 rfl) ?_
      refine lv_iload_n hx hb dX10_fresh_14 rfl (lv_at hl 0 rfl) ?_
      refine k_ishr (v := ((nI mk) >>> ((nI n0) &&& 31))) hx hb dX10_fresh_15 rfl ?_
      refine lv_iconst (v := 1) hx hb dX10_fresh_16 (by decide) ?_
      refine k_iand (v := (((nI mk) >>> ((nI n0) &&& 31)) &&& 1)) hx hb dX10_fresh_17 rfl ?_
      have h1s := num1_some hq0
      refine W.eq (g2 := F0 m 18 ls [.int (nI (bitN mk n0))]) (by rw [show (nI mk >>> (nI n0 &&& 31)) &&& 1 = nI (bitN mk n0) from mk_shr ⟨mk, hmk⟩ ⟨n0, by omega⟩]) ?_
      refine lv_iconst (v := 1) hx hb dX10_fresh_18 (by decide) ?_
      have hb01 := bitN_or mk n0
      refine lv_icmp_ne (tgt := 35) hx hb dX10_fresh_19 (by decide) (fun c_6 => ?_) (fun c_6 => ?_)
      · skip
        refine lv_iload_n hx hb dX10_fresh_35 rfl (lv_at hl 0 rfl) ?_
        have hc9 : isDig cd ln pos ∧ digN cd pos ≤ hi9 ∧ bitN mk (digN cd pos) = 0 ∨ True := Or.inr trivial
        have hz19_1 := neq_of (a := bitN mk n0) (b := 1) (by omega) (by omega) c_6
        have hF := fresh_y (cd := cd) (ln := ln) (hi := hi9) (mk := mk) (pos := pos) ⟨h1s.1, by have := h1s.2.1; have := h1s.2.2.1; omega, by rw [← h1s.2.1]; have q4 := hz19_1; omega⟩
        have hP : va_P D vwCl (fl [[ob (b 0) 9 [.int rf, .ref (b 1), .int (nI ln), .int (nI (freshP cd ln hi9 mk pos)), .ref (b 2), .ref (b 3), .ref (b 4), .ref (b 5), .int ac, .ref (b 6), .ref (b 7), .ref (b 8), .ref (b 9), .ref (b 10), .ref (b 11)]], [ia ty (b 1) 60 cd]]) H := by rw [hF.2]; rw [h1s.2.2.2] at hP; exact hP
        have hD : va_D A (fl [[ob (b 0) 9 [.int rf, .ref (b 1), .int (nI ln), .int (nI (freshP cd ln hi9 mk pos)), .ref (b 2), .ref (b 3), .ref (b 4), .ref (b 5), .int ac, .ref (b 6), .ref (b 7), .ref (b 8), .ref (b 9), .ref (b 10), .ref (b 11)]], [ia ty (b 1) 60 cd]]) := (D_same2 hD [(b 0), (b 1)] rfl rfl)
        exact end_i (bs' := (fun (_ : Unit) => [[ob (b 0) 9 [.int rf, .ref (b 1), .int (nI ln), .int (nI (freshP cd ln hi9 mk pos)), .ref (b 2), .ref (b 3), .ref (b 4), .ref (b 5), .int ac, .ref (b 6), .ref (b 7), .ref (b 8), .ref (b 9), .ref (b 10), .ref (b 11)]], [ia ty (b 1) 60 cd]])) () hx hb hr hlocks hP hD hS (by rw [hF.1, ← h1s.2.1]; rfl) (Nat.le_of_ble_eq_true rfl) (Nat.le_of_ble_eq_true rfl) dX10_fresh_36
      · skip
        refine lv_aload_n hx hb dX10_fresh_22 rfl (lv_at hl 1 rfl) ?_
        refine lv_dup hx hb dX10_fresh_23 rfl ?_
        refine va_get (D := D) (ci := 9) (v := .int (nI (numP cd ln [1] hi9 0 pos))) (C := RX10) (T := TX10) (N := 15) hx hb hts i_X10 hown hK hP 0 rfl rfl 3 (by decide) (hts (Cond.fieldLink RX10 102 "BrownClockModel" "spot" "I") (List.mem_of_getElem? (i := 2) rfl)) (fun _ h9 => h9) rfl dX10_fresh_24 ?_
        refine lv_iconst (v := 1) hx hb dX10_fresh_27 (by decide) ?_
        refine k_isub (v := (nI pos)) hx hb dX10_fresh_28 (by rw [h1s.2.2.2]; exact (congrArg (fun z => z - (1 : Int32)) (nI_add pos 1).symm).trans (Int32.add_sub_cancel (nI pos) 1)) ?_
        refine va_put (D := D) (ci := 9) (v := .int (nI pos)) (ty := .int) (C := RX10) (T := TX10) (N := 15) hx hb hts i_X10 tyX10 tyX10_ok nmX10 hown hK hP hD hS 0 rfl rfl 3 (by decide) (hts (Cond.fieldLink RX10 102 "BrownClockModel" "spot" "I") (List.mem_of_getElem? (i := 2) rfl)) (fun _ h9 => h9) rfl (by decide +kernel) rfl rfl (Nat.le_of_ble_eq_true rfl) dX10_fresh_29 (fun H locs hP hD hS => ?_)
        have hP : va_P D vwCl (fl [[ob (b 0) 9 [.int rf, .ref (b 1), .int (nI ln), .int (nI pos), .ref (b 2), .ref (b 3), .ref (b 4), .ref (b 5), .int ac, .ref (b 6), .ref (b 7), .ref (b 8), .ref (b 9), .ref (b 10), .ref (b 11)]], [ia ty (b 1) 60 cd]]) H := hP
        have hD : va_D A (fl [[ob (b 0) 9 [.int rf, .ref (b 1), .int (nI ln), .int (nI pos), .ref (b 2), .ref (b 3), .ref (b 4), .ref (b 5), .int ac, .ref (b 6), .ref (b 7), .ref (b 8), .ref (b 9), .ref (b 10), .ref (b 11)]], [ia ty (b 1) 60 cd]]) := hD
        refine lv_ldc hx hb hown (hts (Cond.constant RX10 53 (-99999999)) (List.mem_of_getElem? (i := 1) rfl)) dX10_fresh_32 ?_
        have hc9 : isDig cd ln pos ∧ digN cd pos ≤ hi9 ∧ bitN mk (digN cd pos) = 0 ∨ True := Or.inr trivial
        have hz19_1 := (nI_eq (a := bitN mk n0) (b := 1) (by omega) (by omega)).mp c_6
        have hF := fresh_n (cd := cd) (ln := ln) (hi := hi9) (mk := mk) (pos := pos) (fun q => by have q3 := q.2.2; rw [← h1s.2.1] at q3; have q4 := hz19_1; omega)
        have hP : va_P D vwCl (fl [[ob (b 0) 9 [.int rf, .ref (b 1), .int (nI ln), .int (nI (freshP cd ln hi9 mk pos)), .ref (b 2), .ref (b 3), .ref (b 4), .ref (b 5), .int ac, .ref (b 6), .ref (b 7), .ref (b 8), .ref (b 9), .ref (b 10), .ref (b 11)]], [ia ty (b 1) 60 cd]]) H := by rw [hF.2]; exact hP
        have hD : va_D A (fl [[ob (b 0) 9 [.int rf, .ref (b 1), .int (nI ln), .int (nI (freshP cd ln hi9 mk pos)), .ref (b 2), .ref (b 3), .ref (b 4), .ref (b 5), .int ac, .ref (b 6), .ref (b 7), .ref (b 8), .ref (b 9), .ref (b 10), .ref (b 11)]], [ia ty (b 1) 60 cd]]) := (D_same2 hD [(b 0), (b 1)] rfl rfl)
        exact end_i (bs' := (fun (_ : Unit) => [[ob (b 0) 9 [.int rf, .ref (b 1), .int (nI ln), .int (nI (freshP cd ln hi9 mk pos)), .ref (b 2), .ref (b 3), .ref (b 4), .ref (b 5), .int ac, .ref (b 6), .ref (b 7), .ref (b 8), .ref (b 9), .ref (b 10), .ref (b 11)]], [ia ty (b 1) 60 cd]])) () hx hb hr hlocks hP hD hS (by rw [hF.1]; rfl) (Nat.le_of_ble_eq_true rfl) (Nat.le_of_ble_eq_true rfl) dX10_fresh_34
