set_option maxHeartbeats 4000000 in
set_option maxRecDepth 100000 in
theorem c_X10_does (l : Launch) (D : va_G) (ty : Nat → ClassId) (b : Nat → Nat) (rf tn sp ac : Int32) (gg : Nat) (rt : Nat → Int32) (xt yt : Int64) (hg : gg < 100000) (hp : Pw rt) : CTi l yX10_does wsX10_does ({ frames := 5, cells := 0, slots := 0, locals := 115 }) D ty [.ref (b 0), .int (nI (gg / 10000)), .int (nI (gg % 10000))] [[ob (b 0) 9 [.int rf, .ref (b 1), .int tn, .int sp, .ref (b 2), .ref (b 3), .ref (b 4), .ref (b 5), .int ac, .ref (b 6), .ref (b 7), .ref (b 8), .ref (b 9), .ref (b 10), .ref (b 11)]], [ia ty (b 4) 57 rt], [la ty (b 9) 2 (tw xt yt)]] (fun (RET : Int32) (_ : Unit) => RET = (cmdOk gg rt)) (fun (_ : Unit) => [[ob (b 0) 9 [.int rf, .ref (b 1), .int tn, .int sp, .ref (b 2), .ref (b 3), .ref (b 4), .ref (b 5), .int ac, .ref (b 6), .ref (b 7), .ref (b 8), .ref (b 9), .ref (b 10), .ref (b 11)]], [ia ty (b 4) 57 (cmdR gg rt)], [la ty (b 9) 2 (tw (minsX (cmdN gg) rt xt) (minsY (cmdN gg) rt yt))]]) := by
  refine CTi_of cX10_does 6 (some .boolean) (by decide) rfl (Nat.le_of_ble_eq_true rfl) ?_
  intro p e s m args below meth c A hx hb hr hml hown hlocks hin hts hA hX hK hP hD ls hl
  have hown : s.vm.findClass RX10 = some m.cls := hown
  have hS : va_S A s.heap s.heap [] := va_S.rf
  have i_X10 : ∀ z ∈ wsX100, z ∈ wsX10_does := fun z h => List.mem_cons_of_mem _ (List.mem_append_right _ h)
  have hl : lv_has ls 6 [(0, .ref (b 0)), (1, .int (nI (gg / 10000))), (2, .int (nI (gg % 10000)))] := hl
  obtain ⟨K, hK9⟩ : ∃ z, z = gg / 10000 := ⟨_, rfl⟩
  obtain ⟨F, hF⟩ : ∃ z, z = gg % 10000 := ⟨_, rfl⟩
  obtain ⟨Aa, hAa⟩ : ∃ z, z = gg / 1000 % 10 := ⟨_, rfl⟩
  obtain ⟨Tt, hTt⟩ : ∃ z, z = gg % 1000 := ⟨_, rfl⟩
  have hl : lv_has ls 6 [(0, .ref (b 0)), (1, .int (nI K)), (2, .int (nI F))] := by rw [hK9, hF]; exact hl
  refine lv_iload_n hx hb dX10_does_0 rfl (lv_at hl 2 rfl) ?_
  refine lv_sipush (v := 1000) hx hb dX10_does_1 (by decide) ?_
  refine k_idiv (v := (nI (F / 1000))) hx hb dX10_does_4 (by decide) (pk_div (a := F) (d := 1000) (by omega) (by decide) (by decide)) ?_
  refine W.eq (g2 := F0 m 5 ls [.int (nI Aa)]) (by rw [show F / 1000 = Aa by omega]) ?_
  refine lv_istore_n (lv' := [(3, .int (nI Aa)), (0, .ref (b 0)), (1, .int (nI K)), (2, .int (nI F))]) hx hb dX10_does_5 rfl hl (by decide) rfl (fun ls hl => ?_)
  refine lv_iload_n hx hb dX10_does_6 rfl (lv_at hl 3 rfl) ?_
  refine lv_sipush (v := 1000) hx hb dX10_does_7 (by decide) ?_
  refine k_irem (v := (nI (F % 1000))) hx hb dX10_does_10 (by decide) (pk_rem (a := F) (d := 1000) (by omega) (by decide) (by decide)) ?_
  refine W.eq (g2 := F0 m 11 ls [.int (nI Tt)]) (by rw [show F % 1000 = Tt by omega]) ?_
  refine lv_istore (lv' := [(4, .int (nI Tt)), (3, .int (nI Aa)), (0, .ref (b 0)), (1, .int (nI K)), (2, .int (nI F))]) hx hb dX10_does_11 hl (by decide) rfl (fun ls hl => ?_)
  refine lv_aload_n hx hb dX10_does_13 rfl (lv_at hl 2 rfl) ?_
  refine va_get (D := D) (ci := 9) (v := .ref (b 4)) (C := RX10) (T := TX10) (N := 15) hx hb hts i_X10 hown hK hP 0 rfl rfl 6 (by decide) (hts (Cond.fieldLink RX10 19 "BrownClockModel" "trial" "[I") (List.mem_of_getElem? (i := 1) rfl)) (fun _ h9 => h9) rfl dX10_does_14 ?_
  refine cSi (As := [.ref (b 4)]) (rest := []) ⟨hx, hb, hml, hown, hts⟩ (c_X10_domainOf l D ty (b 4) rt) (va_cwS 1 hts gX10_does_X10_domainOf rfl rfl rfl (by decide +kernel) ⟨Nat.le_of_ble_eq_true rfl, Nat.le_of_ble_eq_true rfl⟩) hK hX hP hD hS hA (pk (bs := [[ob (b 0) 9 [.int rf, .ref (b 1), .int tn, .int sp, .ref (b 2), .ref (b 3), .ref (b 4), .ref (b 5), .int ac, .ref (b 6), .ref (b 7), .ref (b 8), .ref (b 9), .ref (b 10), .ref (b 11)]], [ia ty (b 4) 57 rt], [la ty (b 9) 2 (tw xt yt)]]) (bsc := [[ia ty (b 4) 57 rt]]) (bsr := [[ob (b 0) 9 [.int rf, .ref (b 1), .int tn, .int sp, .ref (b 2), .ref (b 3), .ref (b 4), .ref (b 5), .int ac, .ref (b 6), .ref (b 7), .ref (b 8), .ref (b 9), .ref (b 10), .ref (b 11)]], [la ty (b 9) 2 (tw xt yt)]]) [1] [0, 2] 3 rfl (by decide +kernel) rfl rfl) rfl hl.1 rfl (Nat.le_of_ble_eq_true rfl) dX10_does_17 ⟨Nat.le_of_ble_eq_true rfl, Nat.le_of_ble_eq_true rfl⟩ (fun r_2 u_1 h_3 H locs hP hD hS => ?_)
  have h_3 : r_2 = (pdom rt) := h_3
  subst h_3
  have hP : va_P D vwCl (fl [[ob (b 0) 9 [.int rf, .ref (b 1), .int tn, .int sp, .ref (b 2), .ref (b 3), .ref (b 4), .ref (b 5), .int ac, .ref (b 6), .ref (b 7), .ref (b 8), .ref (b 9), .ref (b 10), .ref (b 11)]], [ia ty (b 4) 57 rt], [la ty (b 9) 2 (tw xt yt)]]) H := P_perm (po (bs := [[ia ty (b 4) 57 rt], [ob (b 0) 9 [.int rf, .ref (b 1), .int tn, .int sp, .ref (b 2), .ref (b 3), .ref (b 4), .ref (b 5), .int ac, .ref (b 6), .ref (b 7), .ref (b 8), .ref (b 9), .ref (b 10), .ref (b 11)]], [la ty (b 9) 2 (tw xt yt)]]) [1, 0, 2] 3 rfl (by decide +kernel) rfl) hP
  have hD : va_D A (fl [[ob (b 0) 9 [.int rf, .ref (b 1), .int tn, .int sp, .ref (b 2), .ref (b 3), .ref (b 4), .ref (b 5), .int ac, .ref (b 6), .ref (b 7), .ref (b 8), .ref (b 9), .ref (b 10), .ref (b 11)]], [ia ty (b 4) 57 rt], [la ty (b 9) 2 (tw xt yt)]]) := D_perm (po (bs := [[ia ty (b 4) 57 rt], [ob (b 0) 9 [.int rf, .ref (b 1), .int tn, .int sp, .ref (b 2), .ref (b 3), .ref (b 4), .ref (b 5), .int ac, .ref (b 6), .ref (b 7), .ref (b 8), .ref (b 9), .ref (b 10), .ref (b 11)]], [la ty (b 9) 2 (tw xt yt)]]) [1, 0, 2] 3 rfl (by decide +kernel) rfl) hD
  refine lv_if_ne (tgt := 27) hx hb dX10_does_20 (by decide) (fun c_4 => ?_) (fun c_4 => ?_)
  · skip
    refine lv_iconst (v := 0) hx hb dX10_does_27 (by decide) ?_
    refine lv_istore (lv' := [(5, .int 0), (4, .int (nI Tt)), (3, .int (nI Aa)), (0, .ref (b 0)), (1, .int (nI K)), (2, .int (nI F))]) hx hb dX10_does_28 hl (by decide) rfl (fun ls hl => ?_)
    refine lv_iload_n hx hb dX10_does_30 rfl (lv_at hl 4 rfl) ?_
    rcases Classical.em ((nI K) = 1) with c_5 | c_5
    · refine lv_tableIn (tgt := 80) (off := 49) hx hb dX10_does_31 (by first | (rw [c_5]; done) | (rw [c_5]; decide)) (by first | (rw [c_5]; done) | (rw [c_5]; decide)) (by first | (rw [c_5]; done) | (rw [c_5]; rfl)) (by decide) ?_
      refine lv_iload_n hx hb dX10_does_80 rfl (lv_at hl 5 rfl) ?_
      refine lv_i2l (v := (Int32.toInt64 (nI F))) hx hb dX10_does_81 rfl ?_
      refine lv_lconst (v := 1) hx hb dX10_does_82 (by decide) ?_
      refine lv_ldc2 hx hb hown (hts (Cond.constantLong RX10 155 (1440)) (List.mem_of_getElem? (i := 2) rfl)) dX10_does_83 ?_
      refine cSi (As := [.long (Int32.toInt64 (nI F)), .long 1, .long 1440]) (rest := []) ⟨hx, hb, hml, hown, hts⟩ (c_X10_in l D ty (Int32.toInt64 (nI F)) 1 1440) (va_cwS 3 hts gX10_does_X10_in rfl rfl rfl (by decide +kernel) ⟨Nat.le_of_ble_eq_true rfl, Nat.le_of_ble_eq_true rfl⟩) hK hX hP hD hS hA (pk (bs := [[ob (b 0) 9 [.int rf, .ref (b 1), .int tn, .int sp, .ref (b 2), .ref (b 3), .ref (b 4), .ref (b 5), .int ac, .ref (b 6), .ref (b 7), .ref (b 8), .ref (b 9), .ref (b 10), .ref (b 11)]], [ia ty (b 4) 57 rt], [la ty (b 9) 2 (tw xt yt)]]) (bsc := []) (bsr := [[ob (b 0) 9 [.int rf, .ref (b 1), .int tn, .int sp, .ref (b 2), .ref (b 3), .ref (b 4), .ref (b 5), .int ac, .ref (b 6), .ref (b 7), .ref (b 8), .ref (b 9), .ref (b 10), .ref (b 11)]], [ia ty (b 4) 57 rt], [la ty (b 9) 2 (tw xt yt)]]) [] [0, 1, 2] 3 rfl (by decide +kernel) rfl rfl) rfl hl.1 rfl (Nat.le_of_ble_eq_true rfl) dX10_does_86 ⟨Nat.le_of_ble_eq_true rfl, Nat.le_of_ble_eq_true rfl⟩ (fun r_7 u_6 h_8 H locs hP hD hS => ?_)
      have h_8 : r_7 = (inv (Int32.toInt64 (nI F)) 1 1440) := h_8
      subst h_8
      have hP : va_P D vwCl (fl [[ob (b 0) 9 [.int rf, .ref (b 1), .int tn, .int sp, .ref (b 2), .ref (b 3), .ref (b 4), .ref (b 5), .int ac, .ref (b 6), .ref (b 7), .ref (b 8), .ref (b 9), .ref (b 10), .ref (b 11)]], [ia ty (b 4) 57 rt], [la ty (b 9) 2 (tw xt yt)]]) H := P_perm (po (bs := [[ob (b 0) 9 [.int rf, .ref (b 1), .int tn, .int sp, .ref (b 2), .ref (b 3), .ref (b 4), .ref (b 5), .int ac, .ref (b 6), .ref (b 7), .ref (b 8), .ref (b 9), .ref (b 10), .ref (b 11)]], [ia ty (b 4) 57 rt], [la ty (b 9) 2 (tw xt yt)]]) [0, 1, 2] 3 rfl (by decide +kernel) rfl) hP
      have hD : va_D A (fl [[ob (b 0) 9 [.int rf, .ref (b 1), .int tn, .int sp, .ref (b 2), .ref (b 3), .ref (b 4), .ref (b 5), .int ac, .ref (b 6), .ref (b 7), .ref (b 8), .ref (b 9), .ref (b 10), .ref (b 11)]], [ia ty (b 4) 57 rt], [la ty (b 9) 2 (tw xt yt)]]) := D_perm (po (bs := [[ob (b 0) 9 [.int rf, .ref (b 1), .int tn, .int sp, .ref (b 2), .ref (b 3), .ref (b 4), .ref (b 5), .int ac, .ref (b 6), .ref (b 7), .ref (b 8), .ref (b 9), .ref (b 10), .ref (b 11)]], [ia ty (b 4) 57 rt], [la ty (b 9) 2 (tw xt yt)]]) [0, 1, 2] 3 rfl (by decide +kernel) rfl) hD
      refine lv_if_ne (tgt := 94) hx hb dX10_does_89 (by decide) (fun c_9 => ?_) (fun c_9 => ?_)
      · skip
        have hv89_2 := (inv_nat (n := F) (by omega) 1 1440 (by decide +kernel) (by decide +kernel)).mp c_9
        refine lv_aload_n hx hb dX10_does_94 rfl (lv_at hl 3 rfl) ?_
        refine va_get (D := D) (ci := 9) (v := .ref (b 4)) (C := RX10) (T := TX10) (N := 15) hx hb hts i_X10 hown hK hP 0 rfl rfl 6 (by decide) (hts (Cond.fieldLink RX10 19 "BrownClockModel" "trial" "[I") (List.mem_of_getElem? (i := 1) rfl)) (fun _ h9 => h9) rfl dX10_does_95 ?_
        refine lv_aload_n hx hb dX10_does_98 rfl (lv_at hl 3 rfl) ?_
        refine va_get (D := D) (ci := 9) (v := .ref (b 9)) (C := RX10) (T := TX10) (N := 15) hx hb hts i_X10 hown hK hP 0 rfl rfl 12 (by decide) (hts (Cond.fieldLink RX10 36 "BrownClockModel" "trialSums" "[J") (List.mem_of_getElem? (i := 3) rfl)) (fun _ h9 => h9) rfl dX10_does_99 ?_
        refine lv_iload_n hx hb dX10_does_102 rfl (lv_at hl 5 rfl) ?_
        refine cSv (As := [.ref (b 4), .ref (b 9), .int (nI F)]) (rest := []) ⟨hx, hb, hml, hown, hts⟩ (c_X10_minutesOn l D ty (b 4) (b 9) F rt xt yt (by omega)) (va_cwS 3 hts gX10_does_X10_minutesOn rfl rfl rfl (by decide +kernel) ⟨Nat.le_of_ble_eq_true rfl, Nat.le_of_ble_eq_true rfl⟩) hK hX hP hD hS hA (pk (bs := [[ob (b 0) 9 [.int rf, .ref (b 1), .int tn, .int sp, .ref (b 2), .ref (b 3), .ref (b 4), .ref (b 5), .int ac, .ref (b 6), .ref (b 7), .ref (b 8), .ref (b 9), .ref (b 10), .ref (b 11)]], [ia ty (b 4) 57 rt], [la ty (b 9) 2 (tw xt yt)]]) (bsc := [[ia ty (b 4) 57 rt], [la ty (b 9) 2 (tw xt yt)]]) (bsr := [[ob (b 0) 9 [.int rf, .ref (b 1), .int tn, .int sp, .ref (b 2), .ref (b 3), .ref (b 4), .ref (b 5), .int ac, .ref (b 6), .ref (b 7), .ref (b 8), .ref (b 9), .ref (b 10), .ref (b 11)]]]) [1, 2] [0] 3 rfl (by decide +kernel) rfl rfl) rfl hl.1 rfl (Nat.le_of_ble_eq_true rfl) dX10_does_103 ⟨Nat.le_of_ble_eq_true rfl, Nat.le_of_ble_eq_true rfl⟩ (fun u_10 h_12 H locs hP hD hS => ?_)
        have hP : va_P D vwCl (fl [[ob (b 0) 9 [.int rf, .ref (b 1), .int tn, .int sp, .ref (b 2), .ref (b 3), .ref (b 4), .ref (b 5), .int ac, .ref (b 6), .ref (b 7), .ref (b 8), .ref (b 9), .ref (b 10), .ref (b 11)]], [ia ty (b 4) 57 (minsR F rt)], [la ty (b 9) 2 (tw (minsX F rt xt) (minsY F rt yt))]]) H := P_perm (po (bs := [[ia ty (b 4) 57 (minsR F rt)], [la ty (b 9) 2 (tw (minsX F rt xt) (minsY F rt yt))], [ob (b 0) 9 [.int rf, .ref (b 1), .int tn, .int sp, .ref (b 2), .ref (b 3), .ref (b 4), .ref (b 5), .int ac, .ref (b 6), .ref (b 7), .ref (b 8), .ref (b 9), .ref (b 10), .ref (b 11)]]]) [2, 0, 1] 3 rfl (by decide +kernel) rfl) hP
        have hD : va_D A (fl [[ob (b 0) 9 [.int rf, .ref (b 1), .int tn, .int sp, .ref (b 2), .ref (b 3), .ref (b 4), .ref (b 5), .int ac, .ref (b 6), .ref (b 7), .ref (b 8), .ref (b 9), .ref (b 10), .ref (b 11)]], [ia ty (b 4) 57 (minsR F rt)], [la ty (b 9) 2 (tw (minsX F rt xt) (minsY F rt yt))]]) := D_perm (po (bs := [[ia ty (b 4) 57 (minsR F rt)], [la ty (b 9) 2 (tw (minsX F rt xt) (minsY F rt yt))], [ob (b 0) 9 [.int rf, .ref (b 1), .int tn, .int sp, .ref (b 2), .ref (b 3), .ref (b 4), .ref (b 5), .int ac, .ref (b 6), .ref (b 7), .ref (b 8), .ref (b 9), .ref (b 10), .ref (b 11)]]]) [2, 0, 1] 3 rfl (by decide +kernel) rfl) hD
        refine lv_iconst (v := 1) hx hb dX10_does_106 (by decide) ?_
        have hv89_2 := (inv_nat (n := F) (by omega) 1 1440 (by decide +kernel) (by decide +kernel)).mp c_9
        have hK1 : gg / 10000 = 1 := by have q8 := (nI_eq (a := K) (b := 1) (by omega) (by decide)).mp c_5; omega
        have hC := cm1y (r := rt) hK1 hF (by omega)
        have hP : va_P D vwCl (fl [[ob (b 0) 9 [.int rf, .ref (b 1), .int tn, .int sp, .ref (b 2), .ref (b 3), .ref (b 4), .ref (b 5), .int ac, .ref (b 6), .ref (b 7), .ref (b 8), .ref (b 9), .ref (b 10), .ref (b 11)]], [ia ty (b 4) 57 (cmdR gg rt)], [la ty (b 9) 2 (tw (minsX (cmdN gg) rt xt) (minsY (cmdN gg) rt yt))]]) H := by rw [hC.2.1, hC.2.2]; exact hP
        have hD : va_D A (fl [[ob (b 0) 9 [.int rf, .ref (b 1), .int tn, .int sp, .ref (b 2), .ref (b 3), .ref (b 4), .ref (b 5), .int ac, .ref (b 6), .ref (b 7), .ref (b 8), .ref (b 9), .ref (b 10), .ref (b 11)]], [ia ty (b 4) 57 (cmdR gg rt)], [la ty (b 9) 2 (tw (minsX (cmdN gg) rt xt) (minsY (cmdN gg) rt yt))]]) := (D_same2 hD [(b 0), (b 4), (b 9)] rfl rfl)
        exact end_z (bs' := (fun (_ : Unit) => [[ob (b 0) 9 [.int rf, .ref (b 1), .int tn, .int sp, .ref (b 2), .ref (b 3), .ref (b 4), .ref (b 5), .int ac, .ref (b 6), .ref (b 7), .ref (b 8), .ref (b 9), .ref (b 10), .ref (b 11)]], [ia ty (b 4) 57 (cmdR gg rt)], [la ty (b 9) 2 (tw (minsX (cmdN gg) rt xt) (minsY (cmdN gg) rt yt))]])) () hx hb hr hlocks rfl hP hD hS hC.1.symm (Nat.le_of_ble_eq_true rfl) (Nat.le_of_ble_eq_true rfl) dX10_does_107
      · skip
        refine lv_iconst (v := 0) hx hb dX10_does_92 (by decide) ?_
        have hv89_2 := inv_natn (n := F) (by omega) 1 1440 (by decide +kernel) (by decide +kernel) c_9
        have hK1 : gg / 10000 = 1 := by have q8 := (nI_eq (a := K) (b := 1) (by omega) (by decide)).mp c_5; omega
        have hC := cm1n (r := rt) hK1 hF (by omega)
        have hP : va_P D vwCl (fl [[ob (b 0) 9 [.int rf, .ref (b 1), .int tn, .int sp, .ref (b 2), .ref (b 3), .ref (b 4), .ref (b 5), .int ac, .ref (b 6), .ref (b 7), .ref (b 8), .ref (b 9), .ref (b 10), .ref (b 11)]], [ia ty (b 4) 57 (cmdR gg rt)], [la ty (b 9) 2 (tw (minsX (cmdN gg) rt xt) (minsY (cmdN gg) rt yt))]]) H := by rw [hC.2.1, hC.2.2]; exact hP
        have hD : va_D A (fl [[ob (b 0) 9 [.int rf, .ref (b 1), .int tn, .int sp, .ref (b 2), .ref (b 3), .ref (b 4), .ref (b 5), .int ac, .ref (b 6), .ref (b 7), .ref (b 8), .ref (b 9), .ref (b 10), .ref (b 11)]], [ia ty (b 4) 57 (cmdR gg rt)], [la ty (b 9) 2 (tw (minsX (cmdN gg) rt xt) (minsY (cmdN gg) rt yt))]]) := (D_same2 hD [(b 0), (b 4), (b 9)] rfl rfl)
        exact end_z (bs' := (fun (_ : Unit) => [[ob (b 0) 9 [.int rf, .ref (b 1), .int tn, .int sp, .ref (b 2), .ref (b 3), .ref (b 4), .ref (b 5), .int ac, .ref (b 6), .ref (b 7), .ref (b 8), .ref (b 9), .ref (b 10), .ref (b 11)]], [ia ty (b 4) 57 (cmdR gg rt)], [la ty (b 9) 2 (tw (minsX (cmdN gg) rt xt) (minsY (cmdN gg) rt yt))]])) () hx hb hr hlocks rfl hP hD hS hC.1.symm (Nat.le_of_ble_eq_true rfl) (Nat.le_of_ble_eq_true rfl) dX10_does_93
    rcases Classical.em ((nI K) = 2) with c_13 | c_13
    · refine lv_tableIn (tgt := 108) (off := 77) hx hb dX10_does_31 (by first | (rw [c_13]; done) | (rw [c_13]; decide)) (by first | (rw [c_13]; done) | (rw [c_13]; decide)) (by first | (rw [c_13]; done) | (rw [c_13]; rfl)) (by decide) ?_
      refine lv_iload_n hx hb dX10_does_108 rfl (lv_at hl 5 rfl) ?_
      refine lv_bipush (v := 9) hx hb dX10_does_109 (by decide) ?_
      refine lv_icmp_le (tgt := 116) hx hb dX10_does_111 (by decide) (fun c_14 => ?_) (fun c_14 => ?_)
      · skip
        refine lv_aload_n hx hb dX10_does_116 rfl (lv_at hl 3 rfl) ?_
        refine va_get (D := D) (ci := 9) (v := .ref (b 4)) (C := RX10) (T := TX10) (N := 15) hx hb hts i_X10 hown hK hP 0 rfl rfl 6 (by decide) (hts (Cond.fieldLink RX10 19 "BrownClockModel" "trial" "[I") (List.mem_of_getElem? (i := 1) rfl)) (fun _ h9 => h9) rfl dX10_does_117 ?_
        refine lv_iload_n hx hb dX10_does_120 rfl (lv_at hl 5 rfl) ?_
        refine cSv (As := [.ref (b 4), .int (nI F)]) (rest := []) ⟨hx, hb, hml, hown, hts⟩ (c_X10_levelOn l D ty (b 4) (nI F) rt) (va_cwS 2 hts gX10_does_X10_levelOn rfl rfl rfl (by decide +kernel) ⟨Nat.le_of_ble_eq_true rfl, Nat.le_of_ble_eq_true rfl⟩) hK hX hP hD hS hA (pk (bs := [[ob (b 0) 9 [.int rf, .ref (b 1), .int tn, .int sp, .ref (b 2), .ref (b 3), .ref (b 4), .ref (b 5), .int ac, .ref (b 6), .ref (b 7), .ref (b 8), .ref (b 9), .ref (b 10), .ref (b 11)]], [ia ty (b 4) 57 rt], [la ty (b 9) 2 (tw xt yt)]]) (bsc := [[ia ty (b 4) 57 rt]]) (bsr := [[ob (b 0) 9 [.int rf, .ref (b 1), .int tn, .int sp, .ref (b 2), .ref (b 3), .ref (b 4), .ref (b 5), .int ac, .ref (b 6), .ref (b 7), .ref (b 8), .ref (b 9), .ref (b 10), .ref (b 11)]], [la ty (b 9) 2 (tw xt yt)]]) [1] [0, 2] 3 rfl (by decide +kernel) rfl rfl) rfl hl.1 rfl (Nat.le_of_ble_eq_true rfl) dX10_does_121 ⟨Nat.le_of_ble_eq_true rfl, Nat.le_of_ble_eq_true rfl⟩ (fun u_15 h_17 H locs hP hD hS => ?_)
        have hP : va_P D vwCl (fl [[ob (b 0) 9 [.int rf, .ref (b 1), .int tn, .int sp, .ref (b 2), .ref (b 3), .ref (b 4), .ref (b 5), .int ac, .ref (b 6), .ref (b 7), .ref (b 8), .ref (b 9), .ref (b 10), .ref (b 11)]], [ia ty (b 4) 57 (plevel (nI F) rt)], [la ty (b 9) 2 (tw xt yt)]]) H := P_perm (po (bs := [[ia ty (b 4) 57 (plevel (nI F) rt)], [ob (b 0) 9 [.int rf, .ref (b 1), .int tn, .int sp, .ref (b 2), .ref (b 3), .ref (b 4), .ref (b 5), .int ac, .ref (b 6), .ref (b 7), .ref (b 8), .ref (b 9), .ref (b 10), .ref (b 11)]], [la ty (b 9) 2 (tw xt yt)]]) [1, 0, 2] 3 rfl (by decide +kernel) rfl) hP
        have hD : va_D A (fl [[ob (b 0) 9 [.int rf, .ref (b 1), .int tn, .int sp, .ref (b 2), .ref (b 3), .ref (b 4), .ref (b 5), .int ac, .ref (b 6), .ref (b 7), .ref (b 8), .ref (b 9), .ref (b 10), .ref (b 11)]], [ia ty (b 4) 57 (plevel (nI F) rt)], [la ty (b 9) 2 (tw xt yt)]]) := D_perm (po (bs := [[ia ty (b 4) 57 (plevel (nI F) rt)], [ob (b 0) 9 [.int rf, .ref (b 1), .int tn, .int sp, .ref (b 2), .ref (b 3), .ref (b 4), .ref (b 5), .int ac, .ref (b 6), .ref (b 7), .ref (b 8), .ref (b 9), .ref (b 10), .ref (b 11)]], [la ty (b 9) 2 (tw xt yt)]]) [1, 0, 2] 3 rfl (by decide +kernel) rfl) hD
        refine lv_iconst (v := 1) hx hb dX10_does_124 (by decide) ?_
        have hz111_2 := (nI_leI (a := F) (b := 9) (by omega) (by omega)).mp c_14
        have hK1 : gg / 10000 = 2 := by have q8 := (nI_eq (a := K) (b := 2) (by omega) (by decide)).mp c_13; omega
        have hC := cm2y (r := rt) hK1 hF (by omega)
        have hP : va_P D vwCl (fl [[ob (b 0) 9 [.int rf, .ref (b 1), .int tn, .int sp, .ref (b 2), .ref (b 3), .ref (b 4), .ref (b 5), .int ac, .ref (b 6), .ref (b 7), .ref (b 8), .ref (b 9), .ref (b 10), .ref (b 11)]], [ia ty (b 4) 57 (cmdR gg rt)], [la ty (b 9) 2 (tw (minsX (cmdN gg) rt xt) (minsY (cmdN gg) rt yt))]]) H := by rw [hC.2.1, hC.2.2]; exact hP
        have hD : va_D A (fl [[ob (b 0) 9 [.int rf, .ref (b 1), .int tn, .int sp, .ref (b 2), .ref (b 3), .ref (b 4), .ref (b 5), .int ac, .ref (b 6), .ref (b 7), .ref (b 8), .ref (b 9), .ref (b 10), .ref (b 11)]], [ia ty (b 4) 57 (cmdR gg rt)], [la ty (b 9) 2 (tw (minsX (cmdN gg) rt xt) (minsY (cmdN gg) rt yt))]]) := (D_same2 hD [(b 0), (b 4), (b 9)] rfl rfl)
        exact end_z (bs' := (fun (_ : Unit) => [[ob (b 0) 9 [.int rf, .ref (b 1), .int tn, .int sp, .ref (b 2), .ref (b 3), .ref (b 4), .ref (b 5), .int ac, .ref (b 6), .ref (b 7), .ref (b 8), .ref (b 9), .ref (b 10), .ref (b 11)]], [ia ty (b 4) 57 (cmdR gg rt)], [la ty (b 9) 2 (tw (minsX (cmdN gg) rt xt) (minsY (cmdN gg) rt yt))]])) () hx hb hr hlocks rfl hP hD hS hC.1.symm (Nat.le_of_ble_eq_true rfl) (Nat.le_of_ble_eq_true rfl) dX10_does_125
      · skip
        refine lv_iconst (v := 0) hx hb dX10_does_114 (by decide) ?_
        have hz111_2 := nle_of (a := F) (b := 9) (by omega) (by omega) c_14
        have hK1 : gg / 10000 = 2 := by have q8 := (nI_eq (a := K) (b := 2) (by omega) (by decide)).mp c_13; omega
        have hC := cm2n (r := rt) hK1 hF (by omega)
        have hP : va_P D vwCl (fl [[ob (b 0) 9 [.int rf, .ref (b 1), .int tn, .int sp, .ref (b 2), .ref (b 3), .ref (b 4), .ref (b 5), .int ac, .ref (b 6), .ref (b 7), .ref (b 8), .ref (b 9), .ref (b 10), .ref (b 11)]], [ia ty (b 4) 57 (cmdR gg rt)], [la ty (b 9) 2 (tw (minsX (cmdN gg) rt xt) (minsY (cmdN gg) rt yt))]]) H := by rw [hC.2.1, hC.2.2]; exact hP
        have hD : va_D A (fl [[ob (b 0) 9 [.int rf, .ref (b 1), .int tn, .int sp, .ref (b 2), .ref (b 3), .ref (b 4), .ref (b 5), .int ac, .ref (b 6), .ref (b 7), .ref (b 8), .ref (b 9), .ref (b 10), .ref (b 11)]], [ia ty (b 4) 57 (cmdR gg rt)], [la ty (b 9) 2 (tw (minsX (cmdN gg) rt xt) (minsY (cmdN gg) rt yt))]]) := (D_same2 hD [(b 0), (b 4), (b 9)] rfl rfl)
        exact end_z (bs' := (fun (_ : Unit) => [[ob (b 0) 9 [.int rf, .ref (b 1), .int tn, .int sp, .ref (b 2), .ref (b 3), .ref (b 4), .ref (b 5), .int ac, .ref (b 6), .ref (b 7), .ref (b 8), .ref (b 9), .ref (b 10), .ref (b 11)]], [ia ty (b 4) 57 (cmdR gg rt)], [la ty (b 9) 2 (tw (minsX (cmdN gg) rt xt) (minsY (cmdN gg) rt yt))]])) () hx hb hr hlocks rfl hP hD hS hC.1.symm (Nat.le_of_ble_eq_true rfl) (Nat.le_of_ble_eq_true rfl) dX10_does_115
    rcases Classical.em ((nI K) = 3) with c_18 | c_18
    · refine lv_tableIn (tgt := 126) (off := 95) hx hb dX10_does_31 (by first | (rw [c_18]; done) | (rw [c_18]; decide)) (by first | (rw [c_18]; done) | (rw [c_18]; decide)) (by first | (rw [c_18]; done) | (rw [c_18]; rfl)) (by decide) ?_
      refine lv_iload_n hx hb dX10_does_126 rfl (lv_at hl 2 rfl) ?_
      refine lv_iconst (v := 1) hx hb dX10_does_127 (by decide) ?_
      refine lv_icmp_gt (tgt := 144) hx hb dX10_does_128 (by decide) (fun c_19 => ?_) (fun c_19 => ?_)
      · skip
        refine lv_iconst (v := 0) hx hb dX10_does_144 (by decide) ?_
        have hz128_2 := (nI_ltI (a := 1) (b := Aa) (by omega) (by omega)).mp c_19
        have hK1 : gg / 10000 = 3 := by have q8 := (nI_eq (a := K) (b := 3) (by omega) (by decide)).mp c_18; omega
        have hC := cm3n (r := rt) hK1 hAa hTt (fun q => absurd q.2.2 c_4)
        have hP : va_P D vwCl (fl [[ob (b 0) 9 [.int rf, .ref (b 1), .int tn, .int sp, .ref (b 2), .ref (b 3), .ref (b 4), .ref (b 5), .int ac, .ref (b 6), .ref (b 7), .ref (b 8), .ref (b 9), .ref (b 10), .ref (b 11)]], [ia ty (b 4) 57 (cmdR gg rt)], [la ty (b 9) 2 (tw (minsX (cmdN gg) rt xt) (minsY (cmdN gg) rt yt))]]) H := by rw [hC.2.1, hC.2.2]; exact hP
        have hD : va_D A (fl [[ob (b 0) 9 [.int rf, .ref (b 1), .int tn, .int sp, .ref (b 2), .ref (b 3), .ref (b 4), .ref (b 5), .int ac, .ref (b 6), .ref (b 7), .ref (b 8), .ref (b 9), .ref (b 10), .ref (b 11)]], [ia ty (b 4) 57 (cmdR gg rt)], [la ty (b 9) 2 (tw (minsX (cmdN gg) rt xt) (minsY (cmdN gg) rt yt))]]) := (D_same2 hD [(b 0), (b 4), (b 9)] rfl rfl)
        exact end_z (bs' := (fun (_ : Unit) => [[ob (b 0) 9 [.int rf, .ref (b 1), .int tn, .int sp, .ref (b 2), .ref (b 3), .ref (b 4), .ref (b 5), .int ac, .ref (b 6), .ref (b 7), .ref (b 8), .ref (b 9), .ref (b 10), .ref (b 11)]], [ia ty (b 4) 57 (cmdR gg rt)], [la ty (b 9) 2 (tw (minsX (cmdN gg) rt xt) (minsY (cmdN gg) rt yt))]])) () hx hb hr hlocks rfl hP hD hS hC.1.symm (Nat.le_of_ble_eq_true rfl) (Nat.le_of_ble_eq_true rfl) dX10_does_145
      · skip
        refine lv_iload hx hb dX10_does_131 (lv_at hl 1 rfl) ?_
        refine lv_sipush (v := 500) hx hb dX10_does_133 (by decide) ?_
        refine lv_icmp_gt (tgt := 144) hx hb dX10_does_136 (by decide) (fun c_20 => ?_) (fun c_20 => ?_)
        · skip
          refine lv_iconst (v := 0) hx hb dX10_does_144 (by decide) ?_
          have hz128_2 := nlt_of (a := 1) (b := Aa) (by omega) (by omega) c_19
          have hz136_3 := (nI_ltI (a := 500) (b := Tt) (by omega) (by omega)).mp c_20
          have hK1 : gg / 10000 = 3 := by have q8 := (nI_eq (a := K) (b := 3) (by omega) (by decide)).mp c_18; omega
          have hC := cm3n (r := rt) hK1 hAa hTt (fun q => absurd q.2.2 c_4)
          have hP : va_P D vwCl (fl [[ob (b 0) 9 [.int rf, .ref (b 1), .int tn, .int sp, .ref (b 2), .ref (b 3), .ref (b 4), .ref (b 5), .int ac, .ref (b 6), .ref (b 7), .ref (b 8), .ref (b 9), .ref (b 10), .ref (b 11)]], [ia ty (b 4) 57 (cmdR gg rt)], [la ty (b 9) 2 (tw (minsX (cmdN gg) rt xt) (minsY (cmdN gg) rt yt))]]) H := by rw [hC.2.1, hC.2.2]; exact hP
          have hD : va_D A (fl [[ob (b 0) 9 [.int rf, .ref (b 1), .int tn, .int sp, .ref (b 2), .ref (b 3), .ref (b 4), .ref (b 5), .int ac, .ref (b 6), .ref (b 7), .ref (b 8), .ref (b 9), .ref (b 10), .ref (b 11)]], [ia ty (b 4) 57 (cmdR gg rt)], [la ty (b 9) 2 (tw (minsX (cmdN gg) rt xt) (minsY (cmdN gg) rt yt))]]) := (D_same2 hD [(b 0), (b 4), (b 9)] rfl rfl)
          exact end_z (bs' := (fun (_ : Unit) => [[ob (b 0) 9 [.int rf, .ref (b 1), .int tn, .int sp, .ref (b 2), .ref (b 3), .ref (b 4), .ref (b 5), .int ac, .ref (b 6), .ref (b 7), .ref (b 8), .ref (b 9), .ref (b 10), .ref (b 11)]], [ia ty (b 4) 57 (cmdR gg rt)], [la ty (b 9) 2 (tw (minsX (cmdN gg) rt xt) (minsY (cmdN gg) rt yt))]])) () hx hb hr hlocks rfl hP hD hS hC.1.symm (Nat.le_of_ble_eq_true rfl) (Nat.le_of_ble_eq_true rfl) dX10_does_145
        · skip
          refine lv_iload hx hb dX10_does_139 (lv_at hl 0 rfl) ?_
          refine lv_if_ne (tgt := 146) hx hb dX10_does_141 (by decide) (fun c_21 => ?_) (fun c_21 => ?_)
          · first | exact absurd c_21 (by decide) | exact absurd (by decide) c_21
          · skip
            refine lv_iconst (v := 0) hx hb dX10_does_144 (by decide) ?_
            have hz128_2 := nlt_of (a := 1) (b := Aa) (by omega) (by omega) c_19
            have hz136_3 := nlt_of (a := 500) (b := Tt) (by omega) (by omega) c_20
            have hz141_4 := (nI_eq (a := 0) (b := 0) (by omega) (by omega)).mp c_21
            have hK1 : gg / 10000 = 3 := by have q8 := (nI_eq (a := K) (b := 3) (by omega) (by decide)).mp c_18; omega
            have hC := cm3n (r := rt) hK1 hAa hTt (fun q => absurd q.2.2 c_4)
            have hP : va_P D vwCl (fl [[ob (b 0) 9 [.int rf, .ref (b 1), .int tn, .int sp, .ref (b 2), .ref (b 3), .ref (b 4), .ref (b 5), .int ac, .ref (b 6), .ref (b 7), .ref (b 8), .ref (b 9), .ref (b 10), .ref (b 11)]], [ia ty (b 4) 57 (cmdR gg rt)], [la ty (b 9) 2 (tw (minsX (cmdN gg) rt xt) (minsY (cmdN gg) rt yt))]]) H := by rw [hC.2.1, hC.2.2]; exact hP
            have hD : va_D A (fl [[ob (b 0) 9 [.int rf, .ref (b 1), .int tn, .int sp, .ref (b 2), .ref (b 3), .ref (b 4), .ref (b 5), .int ac, .ref (b 6), .ref (b 7), .ref (b 8), .ref (b 9), .ref (b 10), .ref (b 11)]], [ia ty (b 4) 57 (cmdR gg rt)], [la ty (b 9) 2 (tw (minsX (cmdN gg) rt xt) (minsY (cmdN gg) rt yt))]]) := (D_same2 hD [(b 0), (b 4), (b 9)] rfl rfl)
            exact end_z (bs' := (fun (_ : Unit) => [[ob (b 0) 9 [.int rf, .ref (b 1), .int tn, .int sp, .ref (b 2), .ref (b 3), .ref (b 4), .ref (b 5), .int ac, .ref (b 6), .ref (b 7), .ref (b 8), .ref (b 9), .ref (b 10), .ref (b 11)]], [ia ty (b 4) 57 (cmdR gg rt)], [la ty (b 9) 2 (tw (minsX (cmdN gg) rt xt) (minsY (cmdN gg) rt yt))]])) () hx hb hr hlocks rfl hP hD hS hC.1.symm (Nat.le_of_ble_eq_true rfl) (Nat.le_of_ble_eq_true rfl) dX10_does_145
    rcases Classical.em ((nI K) = 4) with c_22 | c_22
    · refine lv_tableIn (tgt := 166) (off := 135) hx hb dX10_does_31 (by first | (rw [c_22]; done) | (rw [c_22]; decide)) (by first | (rw [c_22]; done) | (rw [c_22]; decide)) (by first | (rw [c_22]; done) | (rw [c_22]; rfl)) (by decide) ?_
      refine lv_iload_n hx hb dX10_does_166 rfl (lv_at hl 2 rfl) ?_
      refine cSi (As := [.int (nI Aa)]) (rest := []) ⟨hx, hb, hml, hown, hts⟩ (c_X10_isRegister l D ty (nI Aa)) (va_cwS 1 hts gX10_does_X10_isRegister rfl rfl rfl (by decide +kernel) ⟨Nat.le_of_ble_eq_true rfl, Nat.le_of_ble_eq_true rfl⟩) hK hX hP hD hS hA (pk (bs := [[ob (b 0) 9 [.int rf, .ref (b 1), .int tn, .int sp, .ref (b 2), .ref (b 3), .ref (b 4), .ref (b 5), .int ac, .ref (b 6), .ref (b 7), .ref (b 8), .ref (b 9), .ref (b 10), .ref (b 11)]], [ia ty (b 4) 57 rt], [la ty (b 9) 2 (tw xt yt)]]) (bsc := []) (bsr := [[ob (b 0) 9 [.int rf, .ref (b 1), .int tn, .int sp, .ref (b 2), .ref (b 3), .ref (b 4), .ref (b 5), .int ac, .ref (b 6), .ref (b 7), .ref (b 8), .ref (b 9), .ref (b 10), .ref (b 11)]], [ia ty (b 4) 57 rt], [la ty (b 9) 2 (tw xt yt)]]) [] [0, 1, 2] 3 rfl (by decide +kernel) rfl rfl) rfl hl.1 rfl (Nat.le_of_ble_eq_true rfl) dX10_does_167 ⟨Nat.le_of_ble_eq_true rfl, Nat.le_of_ble_eq_true rfl⟩ (fun r_24 u_23 h_25 H locs hP hD hS => ?_)
      have h_25 : r_24 = (inv (Int32.toInt64 (nI Aa)) 0 7) := h_25
      subst h_25
      have hP : va_P D vwCl (fl [[ob (b 0) 9 [.int rf, .ref (b 1), .int tn, .int sp, .ref (b 2), .ref (b 3), .ref (b 4), .ref (b 5), .int ac, .ref (b 6), .ref (b 7), .ref (b 8), .ref (b 9), .ref (b 10), .ref (b 11)]], [ia ty (b 4) 57 rt], [la ty (b 9) 2 (tw xt yt)]]) H := P_perm (po (bs := [[ob (b 0) 9 [.int rf, .ref (b 1), .int tn, .int sp, .ref (b 2), .ref (b 3), .ref (b 4), .ref (b 5), .int ac, .ref (b 6), .ref (b 7), .ref (b 8), .ref (b 9), .ref (b 10), .ref (b 11)]], [ia ty (b 4) 57 rt], [la ty (b 9) 2 (tw xt yt)]]) [0, 1, 2] 3 rfl (by decide +kernel) rfl) hP
      have hD : va_D A (fl [[ob (b 0) 9 [.int rf, .ref (b 1), .int tn, .int sp, .ref (b 2), .ref (b 3), .ref (b 4), .ref (b 5), .int ac, .ref (b 6), .ref (b 7), .ref (b 8), .ref (b 9), .ref (b 10), .ref (b 11)]], [ia ty (b 4) 57 rt], [la ty (b 9) 2 (tw xt yt)]]) := D_perm (po (bs := [[ob (b 0) 9 [.int rf, .ref (b 1), .int tn, .int sp, .ref (b 2), .ref (b 3), .ref (b 4), .ref (b 5), .int ac, .ref (b 6), .ref (b 7), .ref (b 8), .ref (b 9), .ref (b 10), .ref (b 11)]], [ia ty (b 4) 57 rt], [la ty (b 9) 2 (tw xt yt)]]) [0, 1, 2] 3 rfl (by decide +kernel) rfl) hD
      refine lv_if_eq (tgt := 186) hx hb dX10_does_170 (by decide) (fun c_26 => ?_) (fun c_26 => ?_)
      · skip
        refine lv_iconst (v := 0) hx hb dX10_does_186 (by decide) ?_
        have hv170_2 := inv_natn (n := Aa) (by omega) 0 7 (by decide +kernel) (by decide +kernel) c_26
        have hK1 : gg / 10000 = 4 := by have q8 := (nI_eq (a := K) (b := 4) (by omega) (by decide)).mp c_22; omega
        have hC := cm4n (r := rt) hK1 hAa hTt (fun q => absurd q.2.2 c_4)
        have hP : va_P D vwCl (fl [[ob (b 0) 9 [.int rf, .ref (b 1), .int tn, .int sp, .ref (b 2), .ref (b 3), .ref (b 4), .ref (b 5), .int ac, .ref (b 6), .ref (b 7), .ref (b 8), .ref (b 9), .ref (b 10), .ref (b 11)]], [ia ty (b 4) 57 (cmdR gg rt)], [la ty (b 9) 2 (tw (minsX (cmdN gg) rt xt) (minsY (cmdN gg) rt yt))]]) H := by rw [hC.2.1, hC.2.2]; exact hP
        have hD : va_D A (fl [[ob (b 0) 9 [.int rf, .ref (b 1), .int tn, .int sp, .ref (b 2), .ref (b 3), .ref (b 4), .ref (b 5), .int ac, .ref (b 6), .ref (b 7), .ref (b 8), .ref (b 9), .ref (b 10), .ref (b 11)]], [ia ty (b 4) 57 (cmdR gg rt)], [la ty (b 9) 2 (tw (minsX (cmdN gg) rt xt) (minsY (cmdN gg) rt yt))]]) := (D_same2 hD [(b 0), (b 4), (b 9)] rfl rfl)
        exact end_z (bs' := (fun (_ : Unit) => [[ob (b 0) 9 [.int rf, .ref (b 1), .int tn, .int sp, .ref (b 2), .ref (b 3), .ref (b 4), .ref (b 5), .int ac, .ref (b 6), .ref (b 7), .ref (b 8), .ref (b 9), .ref (b 10), .ref (b 11)]], [ia ty (b 4) 57 (cmdR gg rt)], [la ty (b 9) 2 (tw (minsX (cmdN gg) rt xt) (minsY (cmdN gg) rt yt))]])) () hx hb hr hlocks rfl hP hD hS hC.1.symm (Nat.le_of_ble_eq_true rfl) (Nat.le_of_ble_eq_true rfl) dX10_does_187
      · skip
        refine lv_iload hx hb dX10_does_173 (lv_at hl 1 rfl) ?_
        refine lv_sipush (v := 255) hx hb dX10_does_175 (by decide) ?_
        refine lv_icmp_gt (tgt := 186) hx hb dX10_does_178 (by decide) (fun c_27 => ?_) (fun c_27 => ?_)
        · skip
          refine lv_iconst (v := 0) hx hb dX10_does_186 (by decide) ?_
          have hz178_3 := (nI_ltI (a := 255) (b := Tt) (by omega) (by omega)).mp c_27
          have hv170_2 := (inv_nat (n := Aa) (by omega) 0 7 (by decide +kernel) (by decide +kernel)).mp c_26
          have hK1 : gg / 10000 = 4 := by have q8 := (nI_eq (a := K) (b := 4) (by omega) (by decide)).mp c_22; omega
          have hC := cm4n (r := rt) hK1 hAa hTt (fun q => absurd q.2.2 c_4)
          have hP : va_P D vwCl (fl [[ob (b 0) 9 [.int rf, .ref (b 1), .int tn, .int sp, .ref (b 2), .ref (b 3), .ref (b 4), .ref (b 5), .int ac, .ref (b 6), .ref (b 7), .ref (b 8), .ref (b 9), .ref (b 10), .ref (b 11)]], [ia ty (b 4) 57 (cmdR gg rt)], [la ty (b 9) 2 (tw (minsX (cmdN gg) rt xt) (minsY (cmdN gg) rt yt))]]) H := by rw [hC.2.1, hC.2.2]; exact hP
          have hD : va_D A (fl [[ob (b 0) 9 [.int rf, .ref (b 1), .int tn, .int sp, .ref (b 2), .ref (b 3), .ref (b 4), .ref (b 5), .int ac, .ref (b 6), .ref (b 7), .ref (b 8), .ref (b 9), .ref (b 10), .ref (b 11)]], [ia ty (b 4) 57 (cmdR gg rt)], [la ty (b 9) 2 (tw (minsX (cmdN gg) rt xt) (minsY (cmdN gg) rt yt))]]) := (D_same2 hD [(b 0), (b 4), (b 9)] rfl rfl)
          exact end_z (bs' := (fun (_ : Unit) => [[ob (b 0) 9 [.int rf, .ref (b 1), .int tn, .int sp, .ref (b 2), .ref (b 3), .ref (b 4), .ref (b 5), .int ac, .ref (b 6), .ref (b 7), .ref (b 8), .ref (b 9), .ref (b 10), .ref (b 11)]], [ia ty (b 4) 57 (cmdR gg rt)], [la ty (b 9) 2 (tw (minsX (cmdN gg) rt xt) (minsY (cmdN gg) rt yt))]])) () hx hb hr hlocks rfl hP hD hS hC.1.symm (Nat.le_of_ble_eq_true rfl) (Nat.le_of_ble_eq_true rfl) dX10_does_187
        · skip
          refine lv_iload hx hb dX10_does_181 (lv_at hl 0 rfl) ?_
          refine lv_if_ne (tgt := 188) hx hb dX10_does_183 (by decide) (fun c_28 => ?_) (fun c_28 => ?_)
          · first | exact absurd c_28 (by decide) | exact absurd (by decide) c_28
          · skip
            refine lv_iconst (v := 0) hx hb dX10_does_186 (by decide) ?_
            have hz178_3 := nlt_of (a := 255) (b := Tt) (by omega) (by omega) c_27
            have hz183_4 := (nI_eq (a := 0) (b := 0) (by omega) (by omega)).mp c_28
            have hv170_2 := (inv_nat (n := Aa) (by omega) 0 7 (by decide +kernel) (by decide +kernel)).mp c_26
            have hK1 : gg / 10000 = 4 := by have q8 := (nI_eq (a := K) (b := 4) (by omega) (by decide)).mp c_22; omega
            have hC := cm4n (r := rt) hK1 hAa hTt (fun q => absurd q.2.2 c_4)
            have hP : va_P D vwCl (fl [[ob (b 0) 9 [.int rf, .ref (b 1), .int tn, .int sp, .ref (b 2), .ref (b 3), .ref (b 4), .ref (b 5), .int ac, .ref (b 6), .ref (b 7), .ref (b 8), .ref (b 9), .ref (b 10), .ref (b 11)]], [ia ty (b 4) 57 (cmdR gg rt)], [la ty (b 9) 2 (tw (minsX (cmdN gg) rt xt) (minsY (cmdN gg) rt yt))]]) H := by rw [hC.2.1, hC.2.2]; exact hP
            have hD : va_D A (fl [[ob (b 0) 9 [.int rf, .ref (b 1), .int tn, .int sp, .ref (b 2), .ref (b 3), .ref (b 4), .ref (b 5), .int ac, .ref (b 6), .ref (b 7), .ref (b 8), .ref (b 9), .ref (b 10), .ref (b 11)]], [ia ty (b 4) 57 (cmdR gg rt)], [la ty (b 9) 2 (tw (minsX (cmdN gg) rt xt) (minsY (cmdN gg) rt yt))]]) := (D_same2 hD [(b 0), (b 4), (b 9)] rfl rfl)
            exact end_z (bs' := (fun (_ : Unit) => [[ob (b 0) 9 [.int rf, .ref (b 1), .int tn, .int sp, .ref (b 2), .ref (b 3), .ref (b 4), .ref (b 5), .int ac, .ref (b 6), .ref (b 7), .ref (b 8), .ref (b 9), .ref (b 10), .ref (b 11)]], [ia ty (b 4) 57 (cmdR gg rt)], [la ty (b 9) 2 (tw (minsX (cmdN gg) rt xt) (minsY (cmdN gg) rt yt))]])) () hx hb hr hlocks rfl hP hD hS hC.1.symm (Nat.le_of_ble_eq_true rfl) (Nat.le_of_ble_eq_true rfl) dX10_does_187
    rcases Classical.em ((nI K) = 5) with c_29 | c_29
    · refine lv_tableIn (tgt := 201) (off := 170) hx hb dX10_does_31 (by first | (rw [c_29]; done) | (rw [c_29]; decide)) (by first | (rw [c_29]; done) | (rw [c_29]; decide)) (by first | (rw [c_29]; done) | (rw [c_29]; rfl)) (by decide) ?_
      refine lv_iload_n hx hb dX10_does_201 rfl (lv_at hl 5 rfl) ?_
      refine cSi (As := [.int (nI F)]) (rest := []) ⟨hx, hb, hml, hown, hts⟩ (c_X10_isPin l D ty (nI F)) (va_cwS 1 hts gX10_does_X10_isPin rfl rfl rfl (by decide +kernel) ⟨Nat.le_of_ble_eq_true rfl, Nat.le_of_ble_eq_true rfl⟩) hK hX hP hD hS hA (pk (bs := [[ob (b 0) 9 [.int rf, .ref (b 1), .int tn, .int sp, .ref (b 2), .ref (b 3), .ref (b 4), .ref (b 5), .int ac, .ref (b 6), .ref (b 7), .ref (b 8), .ref (b 9), .ref (b 10), .ref (b 11)]], [ia ty (b 4) 57 rt], [la ty (b 9) 2 (tw xt yt)]]) (bsc := []) (bsr := [[ob (b 0) 9 [.int rf, .ref (b 1), .int tn, .int sp, .ref (b 2), .ref (b 3), .ref (b 4), .ref (b 5), .int ac, .ref (b 6), .ref (b 7), .ref (b 8), .ref (b 9), .ref (b 10), .ref (b 11)]], [ia ty (b 4) 57 rt], [la ty (b 9) 2 (tw xt yt)]]) [] [0, 1, 2] 3 rfl (by decide +kernel) rfl rfl) rfl hl.1 rfl (Nat.le_of_ble_eq_true rfl) dX10_does_202 ⟨Nat.le_of_ble_eq_true rfl, Nat.le_of_ble_eq_true rfl⟩ (fun r_31 u_30 h_32 H locs hP hD hS => ?_)
      have h_32 : r_31 = (inv (Int32.toInt64 (nI F)) 0 2) := h_32
      subst h_32
      have hP : va_P D vwCl (fl [[ob (b 0) 9 [.int rf, .ref (b 1), .int tn, .int sp, .ref (b 2), .ref (b 3), .ref (b 4), .ref (b 5), .int ac, .ref (b 6), .ref (b 7), .ref (b 8), .ref (b 9), .ref (b 10), .ref (b 11)]], [ia ty (b 4) 57 rt], [la ty (b 9) 2 (tw xt yt)]]) H := P_perm (po (bs := [[ob (b 0) 9 [.int rf, .ref (b 1), .int tn, .int sp, .ref (b 2), .ref (b 3), .ref (b 4), .ref (b 5), .int ac, .ref (b 6), .ref (b 7), .ref (b 8), .ref (b 9), .ref (b 10), .ref (b 11)]], [ia ty (b 4) 57 rt], [la ty (b 9) 2 (tw xt yt)]]) [0, 1, 2] 3 rfl (by decide +kernel) rfl) hP
      have hD : va_D A (fl [[ob (b 0) 9 [.int rf, .ref (b 1), .int tn, .int sp, .ref (b 2), .ref (b 3), .ref (b 4), .ref (b 5), .int ac, .ref (b 6), .ref (b 7), .ref (b 8), .ref (b 9), .ref (b 10), .ref (b 11)]], [ia ty (b 4) 57 rt], [la ty (b 9) 2 (tw xt yt)]]) := D_perm (po (bs := [[ob (b 0) 9 [.int rf, .ref (b 1), .int tn, .int sp, .ref (b 2), .ref (b 3), .ref (b 4), .ref (b 5), .int ac, .ref (b 6), .ref (b 7), .ref (b 8), .ref (b 9), .ref (b 10), .ref (b 11)]], [ia ty (b 4) 57 rt], [la ty (b 9) 2 (tw xt yt)]]) [0, 1, 2] 3 rfl (by decide +kernel) rfl) hD
      refine lv_if_ne (tgt := 210) hx hb dX10_does_205 (by decide) (fun c_33 => ?_) (fun c_33 => ?_)
      · skip
        have hv205_2 := (inv_nat (n := F) (by omega) 0 2 (by decide +kernel) (by decide +kernel)).mp c_33
        refine lv_aload_n hx hb dX10_does_210 rfl (lv_at hl 3 rfl) ?_
        refine va_get (D := D) (ci := 9) (v := .ref (b 4)) (C := RX10) (T := TX10) (N := 15) hx hb hts i_X10 hown hK hP 0 rfl rfl 6 (by decide) (hts (Cond.fieldLink RX10 19 "BrownClockModel" "trial" "[I") (List.mem_of_getElem? (i := 1) rfl)) (fun _ h9 => h9) rfl dX10_does_211 ?_
        refine lv_iload_n hx hb dX10_does_214 rfl (lv_at hl 5 rfl) ?_
        refine cSv (As := [.ref (b 4), .int (nI F)]) (rest := []) ⟨hx, hb, hml, hown, hts⟩ (c_X10_tamperOn l D ty (b 4) (nI F) rt (nI_pos (by omega)) (nI_lt (b := 3) (by omega) (by omega)) (hp.1.1) (hpin_of hp (by omega))) (va_cwS 2 hts gX10_does_X10_tamperOn rfl rfl rfl (by decide +kernel) ⟨Nat.le_of_ble_eq_true rfl, Nat.le_of_ble_eq_true rfl⟩) hK hX hP hD hS hA (pk (bs := [[ob (b 0) 9 [.int rf, .ref (b 1), .int tn, .int sp, .ref (b 2), .ref (b 3), .ref (b 4), .ref (b 5), .int ac, .ref (b 6), .ref (b 7), .ref (b 8), .ref (b 9), .ref (b 10), .ref (b 11)]], [ia ty (b 4) 57 rt], [la ty (b 9) 2 (tw xt yt)]]) (bsc := [[ia ty (b 4) 57 rt]]) (bsr := [[ob (b 0) 9 [.int rf, .ref (b 1), .int tn, .int sp, .ref (b 2), .ref (b 3), .ref (b 4), .ref (b 5), .int ac, .ref (b 6), .ref (b 7), .ref (b 8), .ref (b 9), .ref (b 10), .ref (b 11)]], [la ty (b 9) 2 (tw xt yt)]]) [1] [0, 2] 3 rfl (by decide +kernel) rfl rfl) rfl hl.1 rfl (Nat.le_of_ble_eq_true rfl) dX10_does_215 ⟨Nat.le_of_ble_eq_true rfl, Nat.le_of_ble_eq_true rfl⟩ (fun u_34 h_36 H locs hP hD hS => ?_)
        have hP : va_P D vwCl (fl [[ob (b 0) 9 [.int rf, .ref (b 1), .int tn, .int sp, .ref (b 2), .ref (b 3), .ref (b 4), .ref (b 5), .int ac, .ref (b 6), .ref (b 7), .ref (b 8), .ref (b 9), .ref (b 10), .ref (b 11)]], [ia ty (b 4) 57 (ptamper (nI F) rt)], [la ty (b 9) 2 (tw xt yt)]]) H := P_perm (po (bs := [[ia ty (b 4) 57 (ptamper (nI F) rt)], [ob (b 0) 9 [.int rf, .ref (b 1), .int tn, .int sp, .ref (b 2), .ref (b 3), .ref (b 4), .ref (b 5), .int ac, .ref (b 6), .ref (b 7), .ref (b 8), .ref (b 9), .ref (b 10), .ref (b 11)]], [la ty (b 9) 2 (tw xt yt)]]) [1, 0, 2] 3 rfl (by decide +kernel) rfl) hP
        have hD : va_D A (fl [[ob (b 0) 9 [.int rf, .ref (b 1), .int tn, .int sp, .ref (b 2), .ref (b 3), .ref (b 4), .ref (b 5), .int ac, .ref (b 6), .ref (b 7), .ref (b 8), .ref (b 9), .ref (b 10), .ref (b 11)]], [ia ty (b 4) 57 (ptamper (nI F) rt)], [la ty (b 9) 2 (tw xt yt)]]) := D_perm (po (bs := [[ia ty (b 4) 57 (ptamper (nI F) rt)], [ob (b 0) 9 [.int rf, .ref (b 1), .int tn, .int sp, .ref (b 2), .ref (b 3), .ref (b 4), .ref (b 5), .int ac, .ref (b 6), .ref (b 7), .ref (b 8), .ref (b 9), .ref (b 10), .ref (b 11)]], [la ty (b 9) 2 (tw xt yt)]]) [1, 0, 2] 3 rfl (by decide +kernel) rfl) hD
        refine lv_iconst (v := 1) hx hb dX10_does_218 (by decide) ?_
        have hv205_2 := (inv_nat (n := F) (by omega) 0 2 (by decide +kernel) (by decide +kernel)).mp c_33
        have hK1 : gg / 10000 = 5 := by have q8 := (nI_eq (a := K) (b := 5) (by omega) (by decide)).mp c_29; omega
        have hC := cm5y (r := rt) hK1 hF (by omega)
        have hP : va_P D vwCl (fl [[ob (b 0) 9 [.int rf, .ref (b 1), .int tn, .int sp, .ref (b 2), .ref (b 3), .ref (b 4), .ref (b 5), .int ac, .ref (b 6), .ref (b 7), .ref (b 8), .ref (b 9), .ref (b 10), .ref (b 11)]], [ia ty (b 4) 57 (cmdR gg rt)], [la ty (b 9) 2 (tw (minsX (cmdN gg) rt xt) (minsY (cmdN gg) rt yt))]]) H := by rw [hC.2.1, hC.2.2]; exact hP
        have hD : va_D A (fl [[ob (b 0) 9 [.int rf, .ref (b 1), .int tn, .int sp, .ref (b 2), .ref (b 3), .ref (b 4), .ref (b 5), .int ac, .ref (b 6), .ref (b 7), .ref (b 8), .ref (b 9), .ref (b 10), .ref (b 11)]], [ia ty (b 4) 57 (cmdR gg rt)], [la ty (b 9) 2 (tw (minsX (cmdN gg) rt xt) (minsY (cmdN gg) rt yt))]]) := (D_same2 hD [(b 0), (b 4), (b 9)] rfl rfl)
        exact end_z (bs' := (fun (_ : Unit) => [[ob (b 0) 9 [.int rf, .ref (b 1), .int tn, .int sp, .ref (b 2), .ref (b 3), .ref (b 4), .ref (b 5), .int ac, .ref (b 6), .ref (b 7), .ref (b 8), .ref (b 9), .ref (b 10), .ref (b 11)]], [ia ty (b 4) 57 (cmdR gg rt)], [la ty (b 9) 2 (tw (minsX (cmdN gg) rt xt) (minsY (cmdN gg) rt yt))]])) () hx hb hr hlocks rfl hP hD hS hC.1.symm (Nat.le_of_ble_eq_true rfl) (Nat.le_of_ble_eq_true rfl) dX10_does_219
      · skip
        refine lv_iconst (v := 0) hx hb dX10_does_208 (by decide) ?_
        have hv205_2 := inv_natn (n := F) (by omega) 0 2 (by decide +kernel) (by decide +kernel) c_33
        have hK1 : gg / 10000 = 5 := by have q8 := (nI_eq (a := K) (b := 5) (by omega) (by decide)).mp c_29; omega
        have hC := cm5n (r := rt) hK1 hF (by omega)
        have hP : va_P D vwCl (fl [[ob (b 0) 9 [.int rf, .ref (b 1), .int tn, .int sp, .ref (b 2), .ref (b 3), .ref (b 4), .ref (b 5), .int ac, .ref (b 6), .ref (b 7), .ref (b 8), .ref (b 9), .ref (b 10), .ref (b 11)]], [ia ty (b 4) 57 (cmdR gg rt)], [la ty (b 9) 2 (tw (minsX (cmdN gg) rt xt) (minsY (cmdN gg) rt yt))]]) H := by rw [hC.2.1, hC.2.2]; exact hP
        have hD : va_D A (fl [[ob (b 0) 9 [.int rf, .ref (b 1), .int tn, .int sp, .ref (b 2), .ref (b 3), .ref (b 4), .ref (b 5), .int ac, .ref (b 6), .ref (b 7), .ref (b 8), .ref (b 9), .ref (b 10), .ref (b 11)]], [ia ty (b 4) 57 (cmdR gg rt)], [la ty (b 9) 2 (tw (minsX (cmdN gg) rt xt) (minsY (cmdN gg) rt yt))]]) := (D_same2 hD [(b 0), (b 4), (b 9)] rfl rfl)
        exact end_z (bs' := (fun (_ : Unit) => [[ob (b 0) 9 [.int rf, .ref (b 1), .int tn, .int sp, .ref (b 2), .ref (b 3), .ref (b 4), .ref (b 5), .int ac, .ref (b 6), .ref (b 7), .ref (b 8), .ref (b 9), .ref (b 10), .ref (b 11)]], [ia ty (b 4) 57 (cmdR gg rt)], [la ty (b 9) 2 (tw (minsX (cmdN gg) rt xt) (minsY (cmdN gg) rt yt))]])) () hx hb hr hlocks rfl hP hD hS hC.1.symm (Nat.le_of_ble_eq_true rfl) (Nat.le_of_ble_eq_true rfl) dX10_does_209
    rcases Classical.em ((nI K) = 6) with c_37 | c_37
    · refine lv_tableIn (tgt := 220) (off := 189) hx hb dX10_does_31 (by first | (rw [c_37]; done) | (rw [c_37]; decide)) (by first | (rw [c_37]; done) | (rw [c_37]; decide)) (by first | (rw [c_37]; done) | (rw [c_37]; rfl)) (by decide) ?_
      refine lv_iload_n hx hb dX10_does_220 rfl (lv_at hl 2 rfl) ?_
      refine cSi (As := [.int (nI Aa)]) (rest := []) ⟨hx, hb, hml, hown, hts⟩ (c_X10_isAlarm l D ty (nI Aa)) (va_cwS 1 hts gX10_does_X10_isAlarm rfl rfl rfl (by decide +kernel) ⟨Nat.le_of_ble_eq_true rfl, Nat.le_of_ble_eq_true rfl⟩) hK hX hP hD hS hA (pk (bs := [[ob (b 0) 9 [.int rf, .ref (b 1), .int tn, .int sp, .ref (b 2), .ref (b 3), .ref (b 4), .ref (b 5), .int ac, .ref (b 6), .ref (b 7), .ref (b 8), .ref (b 9), .ref (b 10), .ref (b 11)]], [ia ty (b 4) 57 rt], [la ty (b 9) 2 (tw xt yt)]]) (bsc := []) (bsr := [[ob (b 0) 9 [.int rf, .ref (b 1), .int tn, .int sp, .ref (b 2), .ref (b 3), .ref (b 4), .ref (b 5), .int ac, .ref (b 6), .ref (b 7), .ref (b 8), .ref (b 9), .ref (b 10), .ref (b 11)]], [ia ty (b 4) 57 rt], [la ty (b 9) 2 (tw xt yt)]]) [] [0, 1, 2] 3 rfl (by decide +kernel) rfl rfl) rfl hl.1 rfl (Nat.le_of_ble_eq_true rfl) dX10_does_221 ⟨Nat.le_of_ble_eq_true rfl, Nat.le_of_ble_eq_true rfl⟩ (fun r_39 u_38 h_40 H locs hP hD hS => ?_)
      have h_40 : r_39 = (inv (Int32.toInt64 (nI Aa)) 0 3) := h_40
      subst h_40
      have hP : va_P D vwCl (fl [[ob (b 0) 9 [.int rf, .ref (b 1), .int tn, .int sp, .ref (b 2), .ref (b 3), .ref (b 4), .ref (b 5), .int ac, .ref (b 6), .ref (b 7), .ref (b 8), .ref (b 9), .ref (b 10), .ref (b 11)]], [ia ty (b 4) 57 rt], [la ty (b 9) 2 (tw xt yt)]]) H := P_perm (po (bs := [[ob (b 0) 9 [.int rf, .ref (b 1), .int tn, .int sp, .ref (b 2), .ref (b 3), .ref (b 4), .ref (b 5), .int ac, .ref (b 6), .ref (b 7), .ref (b 8), .ref (b 9), .ref (b 10), .ref (b 11)]], [ia ty (b 4) 57 rt], [la ty (b 9) 2 (tw xt yt)]]) [0, 1, 2] 3 rfl (by decide +kernel) rfl) hP
      have hD : va_D A (fl [[ob (b 0) 9 [.int rf, .ref (b 1), .int tn, .int sp, .ref (b 2), .ref (b 3), .ref (b 4), .ref (b 5), .int ac, .ref (b 6), .ref (b 7), .ref (b 8), .ref (b 9), .ref (b 10), .ref (b 11)]], [ia ty (b 4) 57 rt], [la ty (b 9) 2 (tw xt yt)]]) := D_perm (po (bs := [[ob (b 0) 9 [.int rf, .ref (b 1), .int tn, .int sp, .ref (b 2), .ref (b 3), .ref (b 4), .ref (b 5), .int ac, .ref (b 6), .ref (b 7), .ref (b 8), .ref (b 9), .ref (b 10), .ref (b 11)]], [ia ty (b 4) 57 rt], [la ty (b 9) 2 (tw xt yt)]]) [0, 1, 2] 3 rfl (by decide +kernel) rfl) hD
      refine lv_if_eq (tgt := 232) hx hb dX10_does_224 (by decide) (fun c_41 => ?_) (fun c_41 => ?_)
      · skip
        refine lv_iconst (v := 0) hx hb dX10_does_232 (by decide) ?_
        have hv224_2 := inv_natn (n := Aa) (by omega) 0 3 (by decide +kernel) (by decide +kernel) c_41
        have hK1 : gg / 10000 = 6 := by have q8 := (nI_eq (a := K) (b := 6) (by omega) (by decide)).mp c_37; omega
        have hC := cm6n (r := rt) hK1 hAa hTt (by omega)
        have hP : va_P D vwCl (fl [[ob (b 0) 9 [.int rf, .ref (b 1), .int tn, .int sp, .ref (b 2), .ref (b 3), .ref (b 4), .ref (b 5), .int ac, .ref (b 6), .ref (b 7), .ref (b 8), .ref (b 9), .ref (b 10), .ref (b 11)]], [ia ty (b 4) 57 (cmdR gg rt)], [la ty (b 9) 2 (tw (minsX (cmdN gg) rt xt) (minsY (cmdN gg) rt yt))]]) H := by rw [hC.2.1, hC.2.2]; exact hP
        have hD : va_D A (fl [[ob (b 0) 9 [.int rf, .ref (b 1), .int tn, .int sp, .ref (b 2), .ref (b 3), .ref (b 4), .ref (b 5), .int ac, .ref (b 6), .ref (b 7), .ref (b 8), .ref (b 9), .ref (b 10), .ref (b 11)]], [ia ty (b 4) 57 (cmdR gg rt)], [la ty (b 9) 2 (tw (minsX (cmdN gg) rt xt) (minsY (cmdN gg) rt yt))]]) := (D_same2 hD [(b 0), (b 4), (b 9)] rfl rfl)
        exact end_z (bs' := (fun (_ : Unit) => [[ob (b 0) 9 [.int rf, .ref (b 1), .int tn, .int sp, .ref (b 2), .ref (b 3), .ref (b 4), .ref (b 5), .int ac, .ref (b 6), .ref (b 7), .ref (b 8), .ref (b 9), .ref (b 10), .ref (b 11)]], [ia ty (b 4) 57 (cmdR gg rt)], [la ty (b 9) 2 (tw (minsX (cmdN gg) rt xt) (minsY (cmdN gg) rt yt))]])) () hx hb hr hlocks rfl hP hD hS hC.1.symm (Nat.le_of_ble_eq_true rfl) (Nat.le_of_ble_eq_true rfl) dX10_does_233
      · skip
        refine lv_iload hx hb dX10_does_227 (lv_at hl 1 rfl) ?_
        refine lv_if_eq (tgt := 234) hx hb dX10_does_229 (by decide) (fun c_42 => ?_) (fun c_42 => ?_)
        · skip
          have hz229_3 := (nI_eq (a := Tt) (b := 0) (by omega) (by omega)).mp c_42
          have hv224_2 := (inv_nat (n := Aa) (by omega) 0 3 (by decide +kernel) (by decide +kernel)).mp c_41
          refine lv_aload_n hx hb dX10_does_234 rfl (lv_at hl 3 rfl) ?_
          refine va_get (D := D) (ci := 9) (v := .ref (b 4)) (C := RX10) (T := TX10) (N := 15) hx hb hts i_X10 hown hK hP 0 rfl rfl 6 (by decide) (hts (Cond.fieldLink RX10 19 "BrownClockModel" "trial" "[I") (List.mem_of_getElem? (i := 1) rfl)) (fun _ h9 => h9) rfl dX10_does_235 ?_
          refine lv_iload_n hx hb dX10_does_238 rfl (lv_at hl 2 rfl) ?_
          refine lv_sipush (v := 1440) hx hb dX10_does_239 (by decide) ?_
          refine cSv (As := [.ref (b 4), .int (nI Aa), .int 1440]) (rest := []) ⟨hx, hb, hml, hown, hts⟩ (c_X10_setAlarmOn l D ty (b 4) Aa 1440 rt (by omega)) (va_cwS 3 hts gX10_does_X10_setAlarmOn rfl rfl rfl (by decide +kernel) ⟨Nat.le_of_ble_eq_true rfl, Nat.le_of_ble_eq_true rfl⟩) hK hX hP hD hS hA (pk (bs := [[ob (b 0) 9 [.int rf, .ref (b 1), .int tn, .int sp, .ref (b 2), .ref (b 3), .ref (b 4), .ref (b 5), .int ac, .ref (b 6), .ref (b 7), .ref (b 8), .ref (b 9), .ref (b 10), .ref (b 11)]], [ia ty (b 4) 57 rt], [la ty (b 9) 2 (tw xt yt)]]) (bsc := [[ia ty (b 4) 57 rt]]) (bsr := [[ob (b 0) 9 [.int rf, .ref (b 1), .int tn, .int sp, .ref (b 2), .ref (b 3), .ref (b 4), .ref (b 5), .int ac, .ref (b 6), .ref (b 7), .ref (b 8), .ref (b 9), .ref (b 10), .ref (b 11)]], [la ty (b 9) 2 (tw xt yt)]]) [1] [0, 2] 3 rfl (by decide +kernel) rfl rfl) rfl hl.1 rfl (Nat.le_of_ble_eq_true rfl) dX10_does_242 ⟨Nat.le_of_ble_eq_true rfl, Nat.le_of_ble_eq_true rfl⟩ (fun u_43 h_45 H locs hP hD hS => ?_)
          have hP : va_P D vwCl (fl [[ob (b 0) 9 [.int rf, .ref (b 1), .int tn, .int sp, .ref (b 2), .ref (b 3), .ref (b 4), .ref (b 5), .int ac, .ref (b 6), .ref (b 7), .ref (b 8), .ref (b 9), .ref (b 10), .ref (b 11)]], [ia ty (b 4) 57 (psetAl Aa 1440 rt)], [la ty (b 9) 2 (tw xt yt)]]) H := P_perm (po (bs := [[ia ty (b 4) 57 (psetAl Aa 1440 rt)], [ob (b 0) 9 [.int rf, .ref (b 1), .int tn, .int sp, .ref (b 2), .ref (b 3), .ref (b 4), .ref (b 5), .int ac, .ref (b 6), .ref (b 7), .ref (b 8), .ref (b 9), .ref (b 10), .ref (b 11)]], [la ty (b 9) 2 (tw xt yt)]]) [1, 0, 2] 3 rfl (by decide +kernel) rfl) hP
          have hD : va_D A (fl [[ob (b 0) 9 [.int rf, .ref (b 1), .int tn, .int sp, .ref (b 2), .ref (b 3), .ref (b 4), .ref (b 5), .int ac, .ref (b 6), .ref (b 7), .ref (b 8), .ref (b 9), .ref (b 10), .ref (b 11)]], [ia ty (b 4) 57 (psetAl Aa 1440 rt)], [la ty (b 9) 2 (tw xt yt)]]) := D_perm (po (bs := [[ia ty (b 4) 57 (psetAl Aa 1440 rt)], [ob (b 0) 9 [.int rf, .ref (b 1), .int tn, .int sp, .ref (b 2), .ref (b 3), .ref (b 4), .ref (b 5), .int ac, .ref (b 6), .ref (b 7), .ref (b 8), .ref (b 9), .ref (b 10), .ref (b 11)]], [la ty (b 9) 2 (tw xt yt)]]) [1, 0, 2] 3 rfl (by decide +kernel) rfl) hD
          refine lv_iconst (v := 1) hx hb dX10_does_245 (by decide) ?_
          have hz229_3 := (nI_eq (a := Tt) (b := 0) (by omega) (by omega)).mp c_42
          have hv224_2 := (inv_nat (n := Aa) (by omega) 0 3 (by decide +kernel) (by decide +kernel)).mp c_41
          have hK1 : gg / 10000 = 6 := by have q8 := (nI_eq (a := K) (b := 6) (by omega) (by decide)).mp c_37; omega
          have hC := cm6y (r := rt) hK1 hAa hTt (by omega)
          have hP : va_P D vwCl (fl [[ob (b 0) 9 [.int rf, .ref (b 1), .int tn, .int sp, .ref (b 2), .ref (b 3), .ref (b 4), .ref (b 5), .int ac, .ref (b 6), .ref (b 7), .ref (b 8), .ref (b 9), .ref (b 10), .ref (b 11)]], [ia ty (b 4) 57 (cmdR gg rt)], [la ty (b 9) 2 (tw (minsX (cmdN gg) rt xt) (minsY (cmdN gg) rt yt))]]) H := by rw [hC.2.1, hC.2.2]; exact hP
          have hD : va_D A (fl [[ob (b 0) 9 [.int rf, .ref (b 1), .int tn, .int sp, .ref (b 2), .ref (b 3), .ref (b 4), .ref (b 5), .int ac, .ref (b 6), .ref (b 7), .ref (b 8), .ref (b 9), .ref (b 10), .ref (b 11)]], [ia ty (b 4) 57 (cmdR gg rt)], [la ty (b 9) 2 (tw (minsX (cmdN gg) rt xt) (minsY (cmdN gg) rt yt))]]) := (D_same2 hD [(b 0), (b 4), (b 9)] rfl rfl)
          exact end_z (bs' := (fun (_ : Unit) => [[ob (b 0) 9 [.int rf, .ref (b 1), .int tn, .int sp, .ref (b 2), .ref (b 3), .ref (b 4), .ref (b 5), .int ac, .ref (b 6), .ref (b 7), .ref (b 8), .ref (b 9), .ref (b 10), .ref (b 11)]], [ia ty (b 4) 57 (cmdR gg rt)], [la ty (b 9) 2 (tw (minsX (cmdN gg) rt xt) (minsY (cmdN gg) rt yt))]])) () hx hb hr hlocks rfl hP hD hS hC.1.symm (Nat.le_of_ble_eq_true rfl) (Nat.le_of_ble_eq_true rfl) dX10_does_246
        · skip
          refine lv_iconst (v := 0) hx hb dX10_does_232 (by decide) ?_
          have hz229_3 := neq_of (a := Tt) (b := 0) (by omega) (by omega) c_42
          have hv224_2 := (inv_nat (n := Aa) (by omega) 0 3 (by decide +kernel) (by decide +kernel)).mp c_41
          have hK1 : gg / 10000 = 6 := by have q8 := (nI_eq (a := K) (b := 6) (by omega) (by decide)).mp c_37; omega
          have hC := cm6n (r := rt) hK1 hAa hTt (by omega)
          have hP : va_P D vwCl (fl [[ob (b 0) 9 [.int rf, .ref (b 1), .int tn, .int sp, .ref (b 2), .ref (b 3), .ref (b 4), .ref (b 5), .int ac, .ref (b 6), .ref (b 7), .ref (b 8), .ref (b 9), .ref (b 10), .ref (b 11)]], [ia ty (b 4) 57 (cmdR gg rt)], [la ty (b 9) 2 (tw (minsX (cmdN gg) rt xt) (minsY (cmdN gg) rt yt))]]) H := by rw [hC.2.1, hC.2.2]; exact hP
          have hD : va_D A (fl [[ob (b 0) 9 [.int rf, .ref (b 1), .int tn, .int sp, .ref (b 2), .ref (b 3), .ref (b 4), .ref (b 5), .int ac, .ref (b 6), .ref (b 7), .ref (b 8), .ref (b 9), .ref (b 10), .ref (b 11)]], [ia ty (b 4) 57 (cmdR gg rt)], [la ty (b 9) 2 (tw (minsX (cmdN gg) rt xt) (minsY (cmdN gg) rt yt))]]) := (D_same2 hD [(b 0), (b 4), (b 9)] rfl rfl)
          exact end_z (bs' := (fun (_ : Unit) => [[ob (b 0) 9 [.int rf, .ref (b 1), .int tn, .int sp, .ref (b 2), .ref (b 3), .ref (b 4), .ref (b 5), .int ac, .ref (b 6), .ref (b 7), .ref (b 8), .ref (b 9), .ref (b 10), .ref (b 11)]], [ia ty (b 4) 57 (cmdR gg rt)], [la ty (b 9) 2 (tw (minsX (cmdN gg) rt xt) (minsY (cmdN gg) rt yt))]])) () hx hb hr hlocks rfl hP hD hS hC.1.symm (Nat.le_of_ble_eq_true rfl) (Nat.le_of_ble_eq_true rfl) dX10_does_233
    rcases Classical.em ((nI K) = 7) with c_46 | c_46
    · refine lv_tableIn (tgt := 247) (off := 216) hx hb dX10_does_31 (by first | (rw [c_46]; done) | (rw [c_46]; decide)) (by first | (rw [c_46]; done) | (rw [c_46]; decide)) (by first | (rw [c_46]; done) | (rw [c_46]; rfl)) (by decide) ?_
      refine lv_aload_n hx hb dX10_does_247 rfl (lv_at hl 3 rfl) ?_
      refine va_get (D := D) (ci := 9) (v := .ref (b 4)) (C := RX10) (T := TX10) (N := 15) hx hb hts i_X10 hown hK hP 0 rfl rfl 6 (by decide) (hts (Cond.fieldLink RX10 19 "BrownClockModel" "trial" "[I") (List.mem_of_getElem? (i := 1) rfl)) (fun _ h9 => h9) rfl dX10_does_248 ?_
      refine cSi (As := [.ref (b 4)]) (rest := []) ⟨hx, hb, hml, hown, hts⟩ (c_X10_domainOf l D ty (b 4) rt) (va_cwS 1 hts gX10_does_X10_domainOf rfl rfl rfl (by decide +kernel) ⟨Nat.le_of_ble_eq_true rfl, Nat.le_of_ble_eq_true rfl⟩) hK hX hP hD hS hA (pk (bs := [[ob (b 0) 9 [.int rf, .ref (b 1), .int tn, .int sp, .ref (b 2), .ref (b 3), .ref (b 4), .ref (b 5), .int ac, .ref (b 6), .ref (b 7), .ref (b 8), .ref (b 9), .ref (b 10), .ref (b 11)]], [ia ty (b 4) 57 rt], [la ty (b 9) 2 (tw xt yt)]]) (bsc := [[ia ty (b 4) 57 rt]]) (bsr := [[ob (b 0) 9 [.int rf, .ref (b 1), .int tn, .int sp, .ref (b 2), .ref (b 3), .ref (b 4), .ref (b 5), .int ac, .ref (b 6), .ref (b 7), .ref (b 8), .ref (b 9), .ref (b 10), .ref (b 11)]], [la ty (b 9) 2 (tw xt yt)]]) [1] [0, 2] 3 rfl (by decide +kernel) rfl rfl) rfl hl.1 rfl (Nat.le_of_ble_eq_true rfl) dX10_does_251 ⟨Nat.le_of_ble_eq_true rfl, Nat.le_of_ble_eq_true rfl⟩ (fun r_48 u_47 h_49 H locs hP hD hS => ?_)
      have h_49 : r_48 = (pdom rt) := h_49
      subst h_49
      have hP : va_P D vwCl (fl [[ob (b 0) 9 [.int rf, .ref (b 1), .int tn, .int sp, .ref (b 2), .ref (b 3), .ref (b 4), .ref (b 5), .int ac, .ref (b 6), .ref (b 7), .ref (b 8), .ref (b 9), .ref (b 10), .ref (b 11)]], [ia ty (b 4) 57 rt], [la ty (b 9) 2 (tw xt yt)]]) H := P_perm (po (bs := [[ia ty (b 4) 57 rt], [ob (b 0) 9 [.int rf, .ref (b 1), .int tn, .int sp, .ref (b 2), .ref (b 3), .ref (b 4), .ref (b 5), .int ac, .ref (b 6), .ref (b 7), .ref (b 8), .ref (b 9), .ref (b 10), .ref (b 11)]], [la ty (b 9) 2 (tw xt yt)]]) [1, 0, 2] 3 rfl (by decide +kernel) rfl) hP
      have hD : va_D A (fl [[ob (b 0) 9 [.int rf, .ref (b 1), .int tn, .int sp, .ref (b 2), .ref (b 3), .ref (b 4), .ref (b 5), .int ac, .ref (b 6), .ref (b 7), .ref (b 8), .ref (b 9), .ref (b 10), .ref (b 11)]], [ia ty (b 4) 57 rt], [la ty (b 9) 2 (tw xt yt)]]) := D_perm (po (bs := [[ia ty (b 4) 57 rt], [ob (b 0) 9 [.int rf, .ref (b 1), .int tn, .int sp, .ref (b 2), .ref (b 3), .ref (b 4), .ref (b 5), .int ac, .ref (b 6), .ref (b 7), .ref (b 8), .ref (b 9), .ref (b 10), .ref (b 11)]], [la ty (b 9) 2 (tw xt yt)]]) [1, 0, 2] 3 rfl (by decide +kernel) rfl) hD
      refine lv_iload_n hx hb dX10_does_254 rfl (lv_at hl 5 rfl) ?_
      refine lv_icmp_ne (tgt := 262) hx hb dX10_does_255 (by decide) (fun c_50 => ?_) (fun c_50 => ?_)
      · skip
        refine lv_iconst (v := 0) hx hb dX10_does_262 (by decide) ?_
        have hK1 : gg / 10000 = 7 := by have q8 := (nI_eq (a := K) (b := 7) (by omega) (by decide)).mp c_46; omega
        have hC := cm7n (r := rt) hK1 hF c_50
        have hP : va_P D vwCl (fl [[ob (b 0) 9 [.int rf, .ref (b 1), .int tn, .int sp, .ref (b 2), .ref (b 3), .ref (b 4), .ref (b 5), .int ac, .ref (b 6), .ref (b 7), .ref (b 8), .ref (b 9), .ref (b 10), .ref (b 11)]], [ia ty (b 4) 57 (cmdR gg rt)], [la ty (b 9) 2 (tw (minsX (cmdN gg) rt xt) (minsY (cmdN gg) rt yt))]]) H := by rw [hC.2.1, hC.2.2]; exact hP
        have hD : va_D A (fl [[ob (b 0) 9 [.int rf, .ref (b 1), .int tn, .int sp, .ref (b 2), .ref (b 3), .ref (b 4), .ref (b 5), .int ac, .ref (b 6), .ref (b 7), .ref (b 8), .ref (b 9), .ref (b 10), .ref (b 11)]], [ia ty (b 4) 57 (cmdR gg rt)], [la ty (b 9) 2 (tw (minsX (cmdN gg) rt xt) (minsY (cmdN gg) rt yt))]]) := (D_same2 hD [(b 0), (b 4), (b 9)] rfl rfl)
        exact end_z (bs' := (fun (_ : Unit) => [[ob (b 0) 9 [.int rf, .ref (b 1), .int tn, .int sp, .ref (b 2), .ref (b 3), .ref (b 4), .ref (b 5), .int ac, .ref (b 6), .ref (b 7), .ref (b 8), .ref (b 9), .ref (b 10), .ref (b 11)]], [ia ty (b 4) 57 (cmdR gg rt)], [la ty (b 9) 2 (tw (minsX (cmdN gg) rt xt) (minsY (cmdN gg) rt yt))]])) () hx hb hr hlocks rfl hP hD hS hC.1.symm (Nat.le_of_ble_eq_true rfl) (Nat.le_of_ble_eq_true rfl) dX10_does_263
      · skip
        refine lv_iconst (v := 1) hx hb dX10_does_258 (by decide) ?_
        refine lv_goto (tgt := 263) hx hb dX10_does_259 (by decide) ?_
        have hK1 : gg / 10000 = 7 := by have q8 := (nI_eq (a := K) (b := 7) (by omega) (by decide)).mp c_46; omega
        have hC := cm7y (r := rt) hK1 hF c_50
        have hP : va_P D vwCl (fl [[ob (b 0) 9 [.int rf, .ref (b 1), .int tn, .int sp, .ref (b 2), .ref (b 3), .ref (b 4), .ref (b 5), .int ac, .ref (b 6), .ref (b 7), .ref (b 8), .ref (b 9), .ref (b 10), .ref (b 11)]], [ia ty (b 4) 57 (cmdR gg rt)], [la ty (b 9) 2 (tw (minsX (cmdN gg) rt xt) (minsY (cmdN gg) rt yt))]]) H := by rw [hC.2.1, hC.2.2]; exact hP
        have hD : va_D A (fl [[ob (b 0) 9 [.int rf, .ref (b 1), .int tn, .int sp, .ref (b 2), .ref (b 3), .ref (b 4), .ref (b 5), .int ac, .ref (b 6), .ref (b 7), .ref (b 8), .ref (b 9), .ref (b 10), .ref (b 11)]], [ia ty (b 4) 57 (cmdR gg rt)], [la ty (b 9) 2 (tw (minsX (cmdN gg) rt xt) (minsY (cmdN gg) rt yt))]]) := (D_same2 hD [(b 0), (b 4), (b 9)] rfl rfl)
        exact end_z (bs' := (fun (_ : Unit) => [[ob (b 0) 9 [.int rf, .ref (b 1), .int tn, .int sp, .ref (b 2), .ref (b 3), .ref (b 4), .ref (b 5), .int ac, .ref (b 6), .ref (b 7), .ref (b 8), .ref (b 9), .ref (b 10), .ref (b 11)]], [ia ty (b 4) 57 (cmdR gg rt)], [la ty (b 9) 2 (tw (minsX (cmdN gg) rt xt) (minsY (cmdN gg) rt yt))]])) () hx hb hr hlocks rfl hP hD hS hC.1.symm (Nat.le_of_ble_eq_true rfl) (Nat.le_of_ble_eq_true rfl) dX10_does_263
    rcases Classical.em ((nI K) = 8) with c_51 | c_51
    · refine lv_tableIn (tgt := 264) (off := 233) hx hb dX10_does_31 (by first | (rw [c_51]; done) | (rw [c_51]; decide)) (by first | (rw [c_51]; done) | (rw [c_51]; decide)) (by first | (rw [c_51]; done) | (rw [c_51]; rfl)) (by decide) ?_
      refine lv_iload_n hx hb dX10_does_264 rfl (lv_at hl 2 rfl) ?_
      refine cSi (As := [.int (nI Aa)]) (rest := []) ⟨hx, hb, hml, hown, hts⟩ (c_X10_isRegister l D ty (nI Aa)) (va_cwS 1 hts gX10_does_X10_isRegister rfl rfl rfl (by decide +kernel) ⟨Nat.le_of_ble_eq_true rfl, Nat.le_of_ble_eq_true rfl⟩) hK hX hP hD hS hA (pk (bs := [[ob (b 0) 9 [.int rf, .ref (b 1), .int tn, .int sp, .ref (b 2), .ref (b 3), .ref (b 4), .ref (b 5), .int ac, .ref (b 6), .ref (b 7), .ref (b 8), .ref (b 9), .ref (b 10), .ref (b 11)]], [ia ty (b 4) 57 rt], [la ty (b 9) 2 (tw xt yt)]]) (bsc := []) (bsr := [[ob (b 0) 9 [.int rf, .ref (b 1), .int tn, .int sp, .ref (b 2), .ref (b 3), .ref (b 4), .ref (b 5), .int ac, .ref (b 6), .ref (b 7), .ref (b 8), .ref (b 9), .ref (b 10), .ref (b 11)]], [ia ty (b 4) 57 rt], [la ty (b 9) 2 (tw xt yt)]]) [] [0, 1, 2] 3 rfl (by decide +kernel) rfl rfl) rfl hl.1 rfl (Nat.le_of_ble_eq_true rfl) dX10_does_265 ⟨Nat.le_of_ble_eq_true rfl, Nat.le_of_ble_eq_true rfl⟩ (fun r_53 u_52 h_54 H locs hP hD hS => ?_)
      have h_54 : r_53 = (inv (Int32.toInt64 (nI Aa)) 0 7) := h_54
      subst h_54
      have hP : va_P D vwCl (fl [[ob (b 0) 9 [.int rf, .ref (b 1), .int tn, .int sp, .ref (b 2), .ref (b 3), .ref (b 4), .ref (b 5), .int ac, .ref (b 6), .ref (b 7), .ref (b 8), .ref (b 9), .ref (b 10), .ref (b 11)]], [ia ty (b 4) 57 rt], [la ty (b 9) 2 (tw xt yt)]]) H := P_perm (po (bs := [[ob (b 0) 9 [.int rf, .ref (b 1), .int tn, .int sp, .ref (b 2), .ref (b 3), .ref (b 4), .ref (b 5), .int ac, .ref (b 6), .ref (b 7), .ref (b 8), .ref (b 9), .ref (b 10), .ref (b 11)]], [ia ty (b 4) 57 rt], [la ty (b 9) 2 (tw xt yt)]]) [0, 1, 2] 3 rfl (by decide +kernel) rfl) hP
      have hD : va_D A (fl [[ob (b 0) 9 [.int rf, .ref (b 1), .int tn, .int sp, .ref (b 2), .ref (b 3), .ref (b 4), .ref (b 5), .int ac, .ref (b 6), .ref (b 7), .ref (b 8), .ref (b 9), .ref (b 10), .ref (b 11)]], [ia ty (b 4) 57 rt], [la ty (b 9) 2 (tw xt yt)]]) := D_perm (po (bs := [[ob (b 0) 9 [.int rf, .ref (b 1), .int tn, .int sp, .ref (b 2), .ref (b 3), .ref (b 4), .ref (b 5), .int ac, .ref (b 6), .ref (b 7), .ref (b 8), .ref (b 9), .ref (b 10), .ref (b 11)]], [ia ty (b 4) 57 rt], [la ty (b 9) 2 (tw xt yt)]]) [0, 1, 2] 3 rfl (by decide +kernel) rfl) hD
      refine lv_if_eq (tgt := 289) hx hb dX10_does_268 (by decide) (fun c_55 => ?_) (fun c_55 => ?_)
      · skip
        refine lv_iconst (v := 0) hx hb dX10_does_289 (by decide) ?_
        have hv268_2 := inv_natn (n := Aa) (by omega) 0 7 (by decide +kernel) (by decide +kernel) c_55
        have hK1 : gg / 10000 = 8 := by have q8 := (nI_eq (a := K) (b := 8) (by omega) (by decide)).mp c_51; omega
        have hC := cm8n (r := rt) hK1 hAa hTt (fun q => absurd q.1 (by omega))
        have hP : va_P D vwCl (fl [[ob (b 0) 9 [.int rf, .ref (b 1), .int tn, .int sp, .ref (b 2), .ref (b 3), .ref (b 4), .ref (b 5), .int ac, .ref (b 6), .ref (b 7), .ref (b 8), .ref (b 9), .ref (b 10), .ref (b 11)]], [ia ty (b 4) 57 (cmdR gg rt)], [la ty (b 9) 2 (tw (minsX (cmdN gg) rt xt) (minsY (cmdN gg) rt yt))]]) H := by rw [hC.2.1, hC.2.2]; exact hP
        have hD : va_D A (fl [[ob (b 0) 9 [.int rf, .ref (b 1), .int tn, .int sp, .ref (b 2), .ref (b 3), .ref (b 4), .ref (b 5), .int ac, .ref (b 6), .ref (b 7), .ref (b 8), .ref (b 9), .ref (b 10), .ref (b 11)]], [ia ty (b 4) 57 (cmdR gg rt)], [la ty (b 9) 2 (tw (minsX (cmdN gg) rt xt) (minsY (cmdN gg) rt yt))]]) := (D_same2 hD [(b 0), (b 4), (b 9)] rfl rfl)
        exact end_z (bs' := (fun (_ : Unit) => [[ob (b 0) 9 [.int rf, .ref (b 1), .int tn, .int sp, .ref (b 2), .ref (b 3), .ref (b 4), .ref (b 5), .int ac, .ref (b 6), .ref (b 7), .ref (b 8), .ref (b 9), .ref (b 10), .ref (b 11)]], [ia ty (b 4) 57 (cmdR gg rt)], [la ty (b 9) 2 (tw (minsX (cmdN gg) rt xt) (minsY (cmdN gg) rt yt))]])) () hx hb hr hlocks rfl hP hD hS hC.1.symm (Nat.le_of_ble_eq_true rfl) (Nat.le_of_ble_eq_true rfl) dX10_does_290
      · skip
        have hv268_2 := (inv_nat (n := Aa) (by omega) 0 7 (by decide +kernel) (by decide +kernel)).mp c_55
        refine lv_aload_n hx hb dX10_does_271 rfl (lv_at hl 3 rfl) ?_
        refine va_get (D := D) (ci := 9) (v := .ref (b 4)) (C := RX10) (T := TX10) (N := 15) hx hb hts i_X10 hown hK hP 0 rfl rfl 6 (by decide) (hts (Cond.fieldLink RX10 19 "BrownClockModel" "trial" "[I") (List.mem_of_getElem? (i := 1) rfl)) (fun _ h9 => h9) rfl dX10_does_272 ?_
        refine lv_bipush (v := 16) hx hb dX10_does_275 (by decide) ?_
        refine lv_iload_n hx hb dX10_does_277 rfl (lv_at hl 2 rfl) ?_
        refine k_iadd (v := (nI (16 + Aa))) hx hb dX10_does_278 (nI_add (16) (Aa)) ?_
        refine k_iald hx hb hK hP 1 rfl (16 + Aa) rfl (by omega) (Nat.le_of_ble_eq_true rfl) (v := rt (16 + Aa)) rfl dX10_does_279 ?_
        refine lv_iload hx hb dX10_does_280 (lv_at hl 1 rfl) ?_
        refine lv_icmp_ne (tgt := 289) hx hb dX10_does_282 (by decide) (fun c_56 => ?_) (fun c_56 => ?_)
        · skip
          refine lv_iconst (v := 0) hx hb dX10_does_289 (by decide) ?_
          have hv268_2 := (inv_nat (n := Aa) (by omega) 0 7 (by decide +kernel) (by decide +kernel)).mp c_55
          have hK1 : gg / 10000 = 8 := by have q8 := (nI_eq (a := K) (b := 8) (by omega) (by decide)).mp c_51; omega
          have hC := cm8n (r := rt) hK1 hAa hTt (fun q => absurd q.2 c_56)
          have hP : va_P D vwCl (fl [[ob (b 0) 9 [.int rf, .ref (b 1), .int tn, .int sp, .ref (b 2), .ref (b 3), .ref (b 4), .ref (b 5), .int ac, .ref (b 6), .ref (b 7), .ref (b 8), .ref (b 9), .ref (b 10), .ref (b 11)]], [ia ty (b 4) 57 (cmdR gg rt)], [la ty (b 9) 2 (tw (minsX (cmdN gg) rt xt) (minsY (cmdN gg) rt yt))]]) H := by rw [hC.2.1, hC.2.2]; exact hP
          have hD : va_D A (fl [[ob (b 0) 9 [.int rf, .ref (b 1), .int tn, .int sp, .ref (b 2), .ref (b 3), .ref (b 4), .ref (b 5), .int ac, .ref (b 6), .ref (b 7), .ref (b 8), .ref (b 9), .ref (b 10), .ref (b 11)]], [ia ty (b 4) 57 (cmdR gg rt)], [la ty (b 9) 2 (tw (minsX (cmdN gg) rt xt) (minsY (cmdN gg) rt yt))]]) := (D_same2 hD [(b 0), (b 4), (b 9)] rfl rfl)
          exact end_z (bs' := (fun (_ : Unit) => [[ob (b 0) 9 [.int rf, .ref (b 1), .int tn, .int sp, .ref (b 2), .ref (b 3), .ref (b 4), .ref (b 5), .int ac, .ref (b 6), .ref (b 7), .ref (b 8), .ref (b 9), .ref (b 10), .ref (b 11)]], [ia ty (b 4) 57 (cmdR gg rt)], [la ty (b 9) 2 (tw (minsX (cmdN gg) rt xt) (minsY (cmdN gg) rt yt))]])) () hx hb hr hlocks rfl hP hD hS hC.1.symm (Nat.le_of_ble_eq_true rfl) (Nat.le_of_ble_eq_true rfl) dX10_does_290
        · skip
          refine lv_iconst (v := 1) hx hb dX10_does_285 (by decide) ?_
          refine lv_goto (tgt := 290) hx hb dX10_does_286 (by decide) ?_
          have hv268_2 := (inv_nat (n := Aa) (by omega) 0 7 (by decide +kernel) (by decide +kernel)).mp c_55
          have hK1 : gg / 10000 = 8 := by have q8 := (nI_eq (a := K) (b := 8) (by omega) (by decide)).mp c_51; omega
          have hC := cm8y (r := rt) hK1 hAa hTt ⟨by omega, c_56⟩
          have hP : va_P D vwCl (fl [[ob (b 0) 9 [.int rf, .ref (b 1), .int tn, .int sp, .ref (b 2), .ref (b 3), .ref (b 4), .ref (b 5), .int ac, .ref (b 6), .ref (b 7), .ref (b 8), .ref (b 9), .ref (b 10), .ref (b 11)]], [ia ty (b 4) 57 (cmdR gg rt)], [la ty (b 9) 2 (tw (minsX (cmdN gg) rt xt) (minsY (cmdN gg) rt yt))]]) H := by rw [hC.2.1, hC.2.2]; exact hP
          have hD : va_D A (fl [[ob (b 0) 9 [.int rf, .ref (b 1), .int tn, .int sp, .ref (b 2), .ref (b 3), .ref (b 4), .ref (b 5), .int ac, .ref (b 6), .ref (b 7), .ref (b 8), .ref (b 9), .ref (b 10), .ref (b 11)]], [ia ty (b 4) 57 (cmdR gg rt)], [la ty (b 9) 2 (tw (minsX (cmdN gg) rt xt) (minsY (cmdN gg) rt yt))]]) := (D_same2 hD [(b 0), (b 4), (b 9)] rfl rfl)
          exact end_z (bs' := (fun (_ : Unit) => [[ob (b 0) 9 [.int rf, .ref (b 1), .int tn, .int sp, .ref (b 2), .ref (b 3), .ref (b 4), .ref (b 5), .int ac, .ref (b 6), .ref (b 7), .ref (b 8), .ref (b 9), .ref (b 10), .ref (b 11)]], [ia ty (b 4) 57 (cmdR gg rt)], [la ty (b 9) 2 (tw (minsX (cmdN gg) rt xt) (minsY (cmdN gg) rt yt))]])) () hx hb hr hlocks rfl hP hD hS hC.1.symm (Nat.le_of_ble_eq_true rfl) (Nat.le_of_ble_eq_true rfl) dX10_does_290
    rcases Classical.em ((nI K) = 9) with c_57 | c_57
    · refine lv_tableIn (tgt := 291) (off := 260) hx hb dX10_does_31 (by first | (rw [c_57]; done) | (rw [c_57]; decide)) (by first | (rw [c_57]; done) | (rw [c_57]; decide)) (by first | (rw [c_57]; done) | (rw [c_57]; rfl)) (by decide) ?_
      refine lv_iload_n hx hb dX10_does_291 rfl (lv_at hl 2 rfl) ?_
      refine lv_iconst (v := 2) hx hb dX10_does_292 (by decide) ?_
      refine lv_icmp_ge (tgt := 322) hx hb dX10_does_293 (by decide) (fun c_58 => ?_) (fun c_58 => ?_)
      · skip
        refine lv_iconst (v := 0) hx hb dX10_does_322 (by decide) ?_
        have hz293_2 := (nI_leI (a := 2) (b := Aa) (by omega) (by omega)).mp c_58
        have hK1 : gg / 10000 = 9 := by have q8 := (nI_eq (a := K) (b := 9) (by omega) (by decide)).mp c_57; omega
        have hC := cm9n (r := rt) hK1 hAa hTt (fun q => absurd q.1 (by omega))
        have hP : va_P D vwCl (fl [[ob (b 0) 9 [.int rf, .ref (b 1), .int tn, .int sp, .ref (b 2), .ref (b 3), .ref (b 4), .ref (b 5), .int ac, .ref (b 6), .ref (b 7), .ref (b 8), .ref (b 9), .ref (b 10), .ref (b 11)]], [ia ty (b 4) 57 (cmdR gg rt)], [la ty (b 9) 2 (tw (minsX (cmdN gg) rt xt) (minsY (cmdN gg) rt yt))]]) H := by rw [hC.2.1, hC.2.2]; exact hP
        have hD : va_D A (fl [[ob (b 0) 9 [.int rf, .ref (b 1), .int tn, .int sp, .ref (b 2), .ref (b 3), .ref (b 4), .ref (b 5), .int ac, .ref (b 6), .ref (b 7), .ref (b 8), .ref (b 9), .ref (b 10), .ref (b 11)]], [ia ty (b 4) 57 (cmdR gg rt)], [la ty (b 9) 2 (tw (minsX (cmdN gg) rt xt) (minsY (cmdN gg) rt yt))]]) := (D_same2 hD [(b 0), (b 4), (b 9)] rfl rfl)
        exact end_z (bs' := (fun (_ : Unit) => [[ob (b 0) 9 [.int rf, .ref (b 1), .int tn, .int sp, .ref (b 2), .ref (b 3), .ref (b 4), .ref (b 5), .int ac, .ref (b 6), .ref (b 7), .ref (b 8), .ref (b 9), .ref (b 10), .ref (b 11)]], [ia ty (b 4) 57 (cmdR gg rt)], [la ty (b 9) 2 (tw (minsX (cmdN gg) rt xt) (minsY (cmdN gg) rt yt))]])) () hx hb hr hlocks rfl hP hD hS hC.1.symm (Nat.le_of_ble_eq_true rfl) (Nat.le_of_ble_eq_true rfl) dX10_does_323
      · skip
        refine lv_aload_n hx hb dX10_does_296 rfl (lv_at hl 3 rfl) ?_
        refine va_get (D := D) (ci := 9) (v := .ref (b 4)) (C := RX10) (T := TX10) (N := 15) hx hb hts i_X10 hown hK hP 0 rfl rfl 6 (by decide) (hts (Cond.fieldLink RX10 19 "BrownClockModel" "trial" "[I") (List.mem_of_getElem? (i := 1) rfl)) (fun _ h9 => h9) rfl dX10_does_297 ?_
        refine cSi (As := [.ref (b 4)]) (rest := []) ⟨hx, hb, hml, hown, hts⟩ (c_X10_offsetOf l D ty (b 4) rt) (va_cwS 1 hts gX10_does_X10_offsetOf rfl rfl rfl (by decide +kernel) ⟨Nat.le_of_ble_eq_true rfl, Nat.le_of_ble_eq_true rfl⟩) hK hX hP hD hS hA (pk (bs := [[ob (b 0) 9 [.int rf, .ref (b 1), .int tn, .int sp, .ref (b 2), .ref (b 3), .ref (b 4), .ref (b 5), .int ac, .ref (b 6), .ref (b 7), .ref (b 8), .ref (b 9), .ref (b 10), .ref (b 11)]], [ia ty (b 4) 57 rt], [la ty (b 9) 2 (tw xt yt)]]) (bsc := [[ia ty (b 4) 57 rt]]) (bsr := [[ob (b 0) 9 [.int rf, .ref (b 1), .int tn, .int sp, .ref (b 2), .ref (b 3), .ref (b 4), .ref (b 5), .int ac, .ref (b 6), .ref (b 7), .ref (b 8), .ref (b 9), .ref (b 10), .ref (b 11)]], [la ty (b 9) 2 (tw xt yt)]]) [1] [0, 2] 3 rfl (by decide +kernel) rfl rfl) rfl hl.1 rfl (Nat.le_of_ble_eq_true rfl) dX10_does_300 ⟨Nat.le_of_ble_eq_true rfl, Nat.le_of_ble_eq_true rfl⟩ (fun r_60 u_59 h_61 H locs hP hD hS => ?_)
        have h_61 : r_60 = (poff rt) := h_61
        subst h_61
        have hP : va_P D vwCl (fl [[ob (b 0) 9 [.int rf, .ref (b 1), .int tn, .int sp, .ref (b 2), .ref (b 3), .ref (b 4), .ref (b 5), .int ac, .ref (b 6), .ref (b 7), .ref (b 8), .ref (b 9), .ref (b 10), .ref (b 11)]], [ia ty (b 4) 57 rt], [la ty (b 9) 2 (tw xt yt)]]) H := P_perm (po (bs := [[ia ty (b 4) 57 rt], [ob (b 0) 9 [.int rf, .ref (b 1), .int tn, .int sp, .ref (b 2), .ref (b 3), .ref (b 4), .ref (b 5), .int ac, .ref (b 6), .ref (b 7), .ref (b 8), .ref (b 9), .ref (b 10), .ref (b 11)]], [la ty (b 9) 2 (tw xt yt)]]) [1, 0, 2] 3 rfl (by decide +kernel) rfl) hP
        have hD : va_D A (fl [[ob (b 0) 9 [.int rf, .ref (b 1), .int tn, .int sp, .ref (b 2), .ref (b 3), .ref (b 4), .ref (b 5), .int ac, .ref (b 6), .ref (b 7), .ref (b 8), .ref (b 9), .ref (b 10), .ref (b 11)]], [ia ty (b 4) 57 rt], [la ty (b 9) 2 (tw xt yt)]]) := D_perm (po (bs := [[ia ty (b 4) 57 rt], [ob (b 0) 9 [.int rf, .ref (b 1), .int tn, .int sp, .ref (b 2), .ref (b 3), .ref (b 4), .ref (b 5), .int ac, .ref (b 6), .ref (b 7), .ref (b 8), .ref (b 9), .ref (b 10), .ref (b 11)]], [la ty (b 9) 2 (tw xt yt)]]) [1, 0, 2] 3 rfl (by decide +kernel) rfl) hD
        refine lv_iload_n hx hb dX10_does_303 rfl (lv_at hl 2 rfl) ?_
        refine lv_if_ne (tgt := 312) hx hb dX10_does_304 (by decide) (fun c_62 => ?_) (fun c_62 => ?_)
        · skip
          refine lv_iload hx hb dX10_does_312 (lv_at hl 1 rfl) ?_
          refine k_ineg (v := (-(nI Tt))) hx hb dX10_does_314 rfl ?_
          refine lv_icmp_gt (tgt := 322) hx hb dX10_does_315 (by decide) (fun c_63 => ?_) (fun c_63 => ?_)
          · skip
            refine lv_iconst (v := 0) hx hb dX10_does_322 (by decide) ?_
            have hz293_2 := nle_of (a := 2) (b := Aa) (by omega) (by omega) c_58
            have hz304_3 := neq_of (a := Aa) (b := 0) (by omega) (by omega) c_62
            have hK1 : gg / 10000 = 9 := by have q8 := (nI_eq (a := K) (b := 9) (by omega) (by decide)).mp c_57; omega
            have hsg := sgnv_1 (a := Aa) (b := Tt) (by omega)
            have hC := cm9n (r := rt) hK1 hAa hTt (fun q => by have q2 := q.2; rw [hsg] at q2; exact absurd c_63 (Int32.not_lt.mpr q2))
            have hP : va_P D vwCl (fl [[ob (b 0) 9 [.int rf, .ref (b 1), .int tn, .int sp, .ref (b 2), .ref (b 3), .ref (b 4), .ref (b 5), .int ac, .ref (b 6), .ref (b 7), .ref (b 8), .ref (b 9), .ref (b 10), .ref (b 11)]], [ia ty (b 4) 57 (cmdR gg rt)], [la ty (b 9) 2 (tw (minsX (cmdN gg) rt xt) (minsY (cmdN gg) rt yt))]]) H := by rw [hC.2.1, hC.2.2]; exact hP
            have hD : va_D A (fl [[ob (b 0) 9 [.int rf, .ref (b 1), .int tn, .int sp, .ref (b 2), .ref (b 3), .ref (b 4), .ref (b 5), .int ac, .ref (b 6), .ref (b 7), .ref (b 8), .ref (b 9), .ref (b 10), .ref (b 11)]], [ia ty (b 4) 57 (cmdR gg rt)], [la ty (b 9) 2 (tw (minsX (cmdN gg) rt xt) (minsY (cmdN gg) rt yt))]]) := (D_same2 hD [(b 0), (b 4), (b 9)] rfl rfl)
            exact end_z (bs' := (fun (_ : Unit) => [[ob (b 0) 9 [.int rf, .ref (b 1), .int tn, .int sp, .ref (b 2), .ref (b 3), .ref (b 4), .ref (b 5), .int ac, .ref (b 6), .ref (b 7), .ref (b 8), .ref (b 9), .ref (b 10), .ref (b 11)]], [ia ty (b 4) 57 (cmdR gg rt)], [la ty (b 9) 2 (tw (minsX (cmdN gg) rt xt) (minsY (cmdN gg) rt yt))]])) () hx hb hr hlocks rfl hP hD hS hC.1.symm (Nat.le_of_ble_eq_true rfl) (Nat.le_of_ble_eq_true rfl) dX10_does_323
          · skip
            refine lv_iconst (v := 1) hx hb dX10_does_318 (by decide) ?_
            refine lv_goto (tgt := 323) hx hb dX10_does_319 (by decide) ?_
            have hz293_2 := nle_of (a := 2) (b := Aa) (by omega) (by omega) c_58
            have hz304_3 := neq_of (a := Aa) (b := 0) (by omega) (by omega) c_62
            have hK1 : gg / 10000 = 9 := by have q8 := (nI_eq (a := K) (b := 9) (by omega) (by decide)).mp c_57; omega
            have hsg := sgnv_1 (a := Aa) (b := Tt) (by omega)
            have hC := cm9y (r := rt) hK1 hAa hTt ⟨by omega, by rw [hsg]; exact Int32.not_lt.mp c_63⟩
            have hP : va_P D vwCl (fl [[ob (b 0) 9 [.int rf, .ref (b 1), .int tn, .int sp, .ref (b 2), .ref (b 3), .ref (b 4), .ref (b 5), .int ac, .ref (b 6), .ref (b 7), .ref (b 8), .ref (b 9), .ref (b 10), .ref (b 11)]], [ia ty (b 4) 57 (cmdR gg rt)], [la ty (b 9) 2 (tw (minsX (cmdN gg) rt xt) (minsY (cmdN gg) rt yt))]]) H := by rw [hC.2.1, hC.2.2]; exact hP
            have hD : va_D A (fl [[ob (b 0) 9 [.int rf, .ref (b 1), .int tn, .int sp, .ref (b 2), .ref (b 3), .ref (b 4), .ref (b 5), .int ac, .ref (b 6), .ref (b 7), .ref (b 8), .ref (b 9), .ref (b 10), .ref (b 11)]], [ia ty (b 4) 57 (cmdR gg rt)], [la ty (b 9) 2 (tw (minsX (cmdN gg) rt xt) (minsY (cmdN gg) rt yt))]]) := (D_same2 hD [(b 0), (b 4), (b 9)] rfl rfl)
            exact end_z (bs' := (fun (_ : Unit) => [[ob (b 0) 9 [.int rf, .ref (b 1), .int tn, .int sp, .ref (b 2), .ref (b 3), .ref (b 4), .ref (b 5), .int ac, .ref (b 6), .ref (b 7), .ref (b 8), .ref (b 9), .ref (b 10), .ref (b 11)]], [ia ty (b 4) 57 (cmdR gg rt)], [la ty (b 9) 2 (tw (minsX (cmdN gg) rt xt) (minsY (cmdN gg) rt yt))]])) () hx hb hr hlocks rfl hP hD hS hC.1.symm (Nat.le_of_ble_eq_true rfl) (Nat.le_of_ble_eq_true rfl) dX10_does_323
        · skip
          refine lv_iload hx hb dX10_does_307 (lv_at hl 1 rfl) ?_
          refine lv_goto (tgt := 315) hx hb dX10_does_309 (by decide) ?_
          refine lv_icmp_gt (tgt := 322) hx hb dX10_does_315 (by decide) (fun c_64 => ?_) (fun c_64 => ?_)
          · skip
            refine lv_iconst (v := 0) hx hb dX10_does_322 (by decide) ?_
            have hz293_2 := nle_of (a := 2) (b := Aa) (by omega) (by omega) c_58
            have hz304_3 := (nI_eq (a := Aa) (b := 0) (by omega) (by omega)).mp c_62
            have hK1 : gg / 10000 = 9 := by have q8 := (nI_eq (a := K) (b := 9) (by omega) (by decide)).mp c_57; omega
            have hsg := sgnv_0 (a := Aa) (b := Tt) (by omega)
            have hC := cm9n (r := rt) hK1 hAa hTt (fun q => by have q2 := q.2; rw [hsg] at q2; exact absurd c_64 (Int32.not_lt.mpr q2))
            have hP : va_P D vwCl (fl [[ob (b 0) 9 [.int rf, .ref (b 1), .int tn, .int sp, .ref (b 2), .ref (b 3), .ref (b 4), .ref (b 5), .int ac, .ref (b 6), .ref (b 7), .ref (b 8), .ref (b 9), .ref (b 10), .ref (b 11)]], [ia ty (b 4) 57 (cmdR gg rt)], [la ty (b 9) 2 (tw (minsX (cmdN gg) rt xt) (minsY (cmdN gg) rt yt))]]) H := by rw [hC.2.1, hC.2.2]; exact hP
            have hD : va_D A (fl [[ob (b 0) 9 [.int rf, .ref (b 1), .int tn, .int sp, .ref (b 2), .ref (b 3), .ref (b 4), .ref (b 5), .int ac, .ref (b 6), .ref (b 7), .ref (b 8), .ref (b 9), .ref (b 10), .ref (b 11)]], [ia ty (b 4) 57 (cmdR gg rt)], [la ty (b 9) 2 (tw (minsX (cmdN gg) rt xt) (minsY (cmdN gg) rt yt))]]) := (D_same2 hD [(b 0), (b 4), (b 9)] rfl rfl)
            exact end_z (bs' := (fun (_ : Unit) => [[ob (b 0) 9 [.int rf, .ref (b 1), .int tn, .int sp, .ref (b 2), .ref (b 3), .ref (b 4), .ref (b 5), .int ac, .ref (b 6), .ref (b 7), .ref (b 8), .ref (b 9), .ref (b 10), .ref (b 11)]], [ia ty (b 4) 57 (cmdR gg rt)], [la ty (b 9) 2 (tw (minsX (cmdN gg) rt xt) (minsY (cmdN gg) rt yt))]])) () hx hb hr hlocks rfl hP hD hS hC.1.symm (Nat.le_of_ble_eq_true rfl) (Nat.le_of_ble_eq_true rfl) dX10_does_323
          · skip
            refine lv_iconst (v := 1) hx hb dX10_does_318 (by decide) ?_
            refine lv_goto (tgt := 323) hx hb dX10_does_319 (by decide) ?_
            have hz293_2 := nle_of (a := 2) (b := Aa) (by omega) (by omega) c_58
            have hz304_3 := (nI_eq (a := Aa) (b := 0) (by omega) (by omega)).mp c_62
            have hK1 : gg / 10000 = 9 := by have q8 := (nI_eq (a := K) (b := 9) (by omega) (by decide)).mp c_57; omega
            have hsg := sgnv_0 (a := Aa) (b := Tt) (by omega)
            have hC := cm9y (r := rt) hK1 hAa hTt ⟨by omega, by rw [hsg]; exact Int32.not_lt.mp c_64⟩
            have hP : va_P D vwCl (fl [[ob (b 0) 9 [.int rf, .ref (b 1), .int tn, .int sp, .ref (b 2), .ref (b 3), .ref (b 4), .ref (b 5), .int ac, .ref (b 6), .ref (b 7), .ref (b 8), .ref (b 9), .ref (b 10), .ref (b 11)]], [ia ty (b 4) 57 (cmdR gg rt)], [la ty (b 9) 2 (tw (minsX (cmdN gg) rt xt) (minsY (cmdN gg) rt yt))]]) H := by rw [hC.2.1, hC.2.2]; exact hP
            have hD : va_D A (fl [[ob (b 0) 9 [.int rf, .ref (b 1), .int tn, .int sp, .ref (b 2), .ref (b 3), .ref (b 4), .ref (b 5), .int ac, .ref (b 6), .ref (b 7), .ref (b 8), .ref (b 9), .ref (b 10), .ref (b 11)]], [ia ty (b 4) 57 (cmdR gg rt)], [la ty (b 9) 2 (tw (minsX (cmdN gg) rt xt) (minsY (cmdN gg) rt yt))]]) := (D_same2 hD [(b 0), (b 4), (b 9)] rfl rfl)
            exact end_z (bs' := (fun (_ : Unit) => [[ob (b 0) 9 [.int rf, .ref (b 1), .int tn, .int sp, .ref (b 2), .ref (b 3), .ref (b 4), .ref (b 5), .int ac, .ref (b 6), .ref (b 7), .ref (b 8), .ref (b 9), .ref (b 10), .ref (b 11)]], [ia ty (b 4) 57 (cmdR gg rt)], [la ty (b 9) 2 (tw (minsX (cmdN gg) rt xt) (minsY (cmdN gg) rt yt))]])) () hx hb hr hlocks rfl hP hD hS hC.1.symm (Nat.le_of_ble_eq_true rfl) (Nat.le_of_ble_eq_true rfl) dX10_does_323
    refine lv_tableOut (tgt := 324) hx hb dX10_does_31 (by have h0 := lv_neT c_5 (show (1 : Int32).toInt = 1 from rfl); have h1 := lv_neT c_13 (show (2 : Int32).toInt = 2 from rfl); have h2 := lv_neT c_18 (show (3 : Int32).toInt = 3 from rfl); have h3 := lv_neT c_22 (show (4 : Int32).toInt = 4 from rfl); have h4 := lv_neT c_29 (show (5 : Int32).toInt = 5 from rfl); have h5 := lv_neT c_37 (show (6 : Int32).toInt = 6 from rfl); have h6 := lv_neT c_46 (show (7 : Int32).toInt = 7 from rfl); have h7 := lv_neT c_51 (show (8 : Int32).toInt = 8 from rfl); have h8 := lv_neT c_57 (show (9 : Int32).toInt = 9 from rfl); omega) (by decide) ?_
    refine lv_iconst (v := 0) hx hb dX10_does_324 (by decide) ?_
    have hk1 := neq_of (a := K) (b := 1) (by omega) (by decide) c_5
    have hk2 := neq_of (a := K) (b := 2) (by omega) (by decide) c_13
    have hk3 := neq_of (a := K) (b := 3) (by omega) (by decide) c_18
    have hk4 := neq_of (a := K) (b := 4) (by omega) (by decide) c_22
    have hk5 := neq_of (a := K) (b := 5) (by omega) (by decide) c_29
    have hk6 := neq_of (a := K) (b := 6) (by omega) (by decide) c_37
    have hk7 := neq_of (a := K) (b := 7) (by omega) (by decide) c_46
    have hk8 := neq_of (a := K) (b := 8) (by omega) (by decide) c_51
    have hk9 := neq_of (a := K) (b := 9) (by omega) (by decide) c_57
    have hC := cmd0 (r := rt) (gg := gg) (by omega)
    have hP : va_P D vwCl (fl [[ob (b 0) 9 [.int rf, .ref (b 1), .int tn, .int sp, .ref (b 2), .ref (b 3), .ref (b 4), .ref (b 5), .int ac, .ref (b 6), .ref (b 7), .ref (b 8), .ref (b 9), .ref (b 10), .ref (b 11)]], [ia ty (b 4) 57 (cmdR gg rt)], [la ty (b 9) 2 (tw (minsX (cmdN gg) rt xt) (minsY (cmdN gg) rt yt))]]) H := by rw [hC.2.1, hC.2.2]; exact hP
    have hD : va_D A (fl [[ob (b 0) 9 [.int rf, .ref (b 1), .int tn, .int sp, .ref (b 2), .ref (b 3), .ref (b 4), .ref (b 5), .int ac, .ref (b 6), .ref (b 7), .ref (b 8), .ref (b 9), .ref (b 10), .ref (b 11)]], [ia ty (b 4) 57 (cmdR gg rt)], [la ty (b 9) 2 (tw (minsX (cmdN gg) rt xt) (minsY (cmdN gg) rt yt))]]) := (D_same2 hD [(b 0), (b 4), (b 9)] rfl rfl)
    exact end_z (bs' := (fun (_ : Unit) => [[ob (b 0) 9 [.int rf, .ref (b 1), .int tn, .int sp, .ref (b 2), .ref (b 3), .ref (b 4), .ref (b 5), .int ac, .ref (b 6), .ref (b 7), .ref (b 8), .ref (b 9), .ref (b 10), .ref (b 11)]], [ia ty (b 4) 57 (cmdR gg rt)], [la ty (b 9) 2 (tw (minsX (cmdN gg) rt xt) (minsY (cmdN gg) rt yt))]])) () hx hb hr hlocks rfl hP hD hS hC.1.symm (Nat.le_of_ble_eq_true rfl) (Nat.le_of_ble_eq_true rfl) dX10_does_325
  · skip
    refine lv_iconst (v := 1) hx hb dX10_does_23 (by decide) ?_
    refine lv_goto (tgt := 28) hx hb dX10_does_24 (by decide) ?_
    refine lv_istore (lv' := [(5, .int 1), (4, .int (nI Tt)), (3, .int (nI Aa)), (0, .ref (b 0)), (1, .int (nI K)), (2, .int (nI F))]) hx hb dX10_does_28 hl (by decide) rfl (fun ls hl => ?_)
    refine lv_iload_n hx hb dX10_does_30 rfl (lv_at hl 4 rfl) ?_
    rcases Classical.em ((nI K) = 1) with c_65 | c_65
    · refine lv_tableIn (tgt := 80) (off := 49) hx hb dX10_does_31 (by first | (rw [c_65]; done) | (rw [c_65]; decide)) (by first | (rw [c_65]; done) | (rw [c_65]; decide)) (by first | (rw [c_65]; done) | (rw [c_65]; rfl)) (by decide) ?_
      refine lv_iload_n hx hb dX10_does_80 rfl (lv_at hl 5 rfl) ?_
      refine lv_i2l (v := (Int32.toInt64 (nI F))) hx hb dX10_does_81 rfl ?_
      refine lv_lconst (v := 1) hx hb dX10_does_82 (by decide) ?_
      refine lv_ldc2 hx hb hown (hts (Cond.constantLong RX10 155 (1440)) (List.mem_of_getElem? (i := 2) rfl)) dX10_does_83 ?_
      refine cSi (As := [.long (Int32.toInt64 (nI F)), .long 1, .long 1440]) (rest := []) ⟨hx, hb, hml, hown, hts⟩ (c_X10_in l D ty (Int32.toInt64 (nI F)) 1 1440) (va_cwS 3 hts gX10_does_X10_in rfl rfl rfl (by decide +kernel) ⟨Nat.le_of_ble_eq_true rfl, Nat.le_of_ble_eq_true rfl⟩) hK hX hP hD hS hA (pk (bs := [[ob (b 0) 9 [.int rf, .ref (b 1), .int tn, .int sp, .ref (b 2), .ref (b 3), .ref (b 4), .ref (b 5), .int ac, .ref (b 6), .ref (b 7), .ref (b 8), .ref (b 9), .ref (b 10), .ref (b 11)]], [ia ty (b 4) 57 rt], [la ty (b 9) 2 (tw xt yt)]]) (bsc := []) (bsr := [[ob (b 0) 9 [.int rf, .ref (b 1), .int tn, .int sp, .ref (b 2), .ref (b 3), .ref (b 4), .ref (b 5), .int ac, .ref (b 6), .ref (b 7), .ref (b 8), .ref (b 9), .ref (b 10), .ref (b 11)]], [ia ty (b 4) 57 rt], [la ty (b 9) 2 (tw xt yt)]]) [] [0, 1, 2] 3 rfl (by decide +kernel) rfl rfl) rfl hl.1 rfl (Nat.le_of_ble_eq_true rfl) dX10_does_86 ⟨Nat.le_of_ble_eq_true rfl, Nat.le_of_ble_eq_true rfl⟩ (fun r_67 u_66 h_68 H locs hP hD hS => ?_)
      have h_68 : r_67 = (inv (Int32.toInt64 (nI F)) 1 1440) := h_68
      subst h_68
      have hP : va_P D vwCl (fl [[ob (b 0) 9 [.int rf, .ref (b 1), .int tn, .int sp, .ref (b 2), .ref (b 3), .ref (b 4), .ref (b 5), .int ac, .ref (b 6), .ref (b 7), .ref (b 8), .ref (b 9), .ref (b 10), .ref (b 11)]], [ia ty (b 4) 57 rt], [la ty (b 9) 2 (tw xt yt)]]) H := P_perm (po (bs := [[ob (b 0) 9 [.int rf, .ref (b 1), .int tn, .int sp, .ref (b 2), .ref (b 3), .ref (b 4), .ref (b 5), .int ac, .ref (b 6), .ref (b 7), .ref (b 8), .ref (b 9), .ref (b 10), .ref (b 11)]], [ia ty (b 4) 57 rt], [la ty (b 9) 2 (tw xt yt)]]) [0, 1, 2] 3 rfl (by decide +kernel) rfl) hP
      have hD : va_D A (fl [[ob (b 0) 9 [.int rf, .ref (b 1), .int tn, .int sp, .ref (b 2), .ref (b 3), .ref (b 4), .ref (b 5), .int ac, .ref (b 6), .ref (b 7), .ref (b 8), .ref (b 9), .ref (b 10), .ref (b 11)]], [ia ty (b 4) 57 rt], [la ty (b 9) 2 (tw xt yt)]]) := D_perm (po (bs := [[ob (b 0) 9 [.int rf, .ref (b 1), .int tn, .int sp, .ref (b 2), .ref (b 3), .ref (b 4), .ref (b 5), .int ac, .ref (b 6), .ref (b 7), .ref (b 8), .ref (b 9), .ref (b 10), .ref (b 11)]], [ia ty (b 4) 57 rt], [la ty (b 9) 2 (tw xt yt)]]) [0, 1, 2] 3 rfl (by decide +kernel) rfl) hD
      refine lv_if_ne (tgt := 94) hx hb dX10_does_89 (by decide) (fun c_69 => ?_) (fun c_69 => ?_)
      · skip
        have hv89_2 := (inv_nat (n := F) (by omega) 1 1440 (by decide +kernel) (by decide +kernel)).mp c_69
        refine lv_aload_n hx hb dX10_does_94 rfl (lv_at hl 3 rfl) ?_
        refine va_get (D := D) (ci := 9) (v := .ref (b 4)) (C := RX10) (T := TX10) (N := 15) hx hb hts i_X10 hown hK hP 0 rfl rfl 6 (by decide) (hts (Cond.fieldLink RX10 19 "BrownClockModel" "trial" "[I") (List.mem_of_getElem? (i := 1) rfl)) (fun _ h9 => h9) rfl dX10_does_95 ?_
        refine lv_aload_n hx hb dX10_does_98 rfl (lv_at hl 3 rfl) ?_
        refine va_get (D := D) (ci := 9) (v := .ref (b 9)) (C := RX10) (T := TX10) (N := 15) hx hb hts i_X10 hown hK hP 0 rfl rfl 12 (by decide) (hts (Cond.fieldLink RX10 36 "BrownClockModel" "trialSums" "[J") (List.mem_of_getElem? (i := 3) rfl)) (fun _ h9 => h9) rfl dX10_does_99 ?_
        refine lv_iload_n hx hb dX10_does_102 rfl (lv_at hl 5 rfl) ?_
        refine cSv (As := [.ref (b 4), .ref (b 9), .int (nI F)]) (rest := []) ⟨hx, hb, hml, hown, hts⟩ (c_X10_minutesOn l D ty (b 4) (b 9) F rt xt yt (by omega)) (va_cwS 3 hts gX10_does_X10_minutesOn rfl rfl rfl (by decide +kernel) ⟨Nat.le_of_ble_eq_true rfl, Nat.le_of_ble_eq_true rfl⟩) hK hX hP hD hS hA (pk (bs := [[ob (b 0) 9 [.int rf, .ref (b 1), .int tn, .int sp, .ref (b 2), .ref (b 3), .ref (b 4), .ref (b 5), .int ac, .ref (b 6), .ref (b 7), .ref (b 8), .ref (b 9), .ref (b 10), .ref (b 11)]], [ia ty (b 4) 57 rt], [la ty (b 9) 2 (tw xt yt)]]) (bsc := [[ia ty (b 4) 57 rt], [la ty (b 9) 2 (tw xt yt)]]) (bsr := [[ob (b 0) 9 [.int rf, .ref (b 1), .int tn, .int sp, .ref (b 2), .ref (b 3), .ref (b 4), .ref (b 5), .int ac, .ref (b 6), .ref (b 7), .ref (b 8), .ref (b 9), .ref (b 10), .ref (b 11)]]]) [1, 2] [0] 3 rfl (by decide +kernel) rfl rfl) rfl hl.1 rfl (Nat.le_of_ble_eq_true rfl) dX10_does_103 ⟨Nat.le_of_ble_eq_true rfl, Nat.le_of_ble_eq_true rfl⟩ (fun u_70 h_72 H locs hP hD hS => ?_)
        have hP : va_P D vwCl (fl [[ob (b 0) 9 [.int rf, .ref (b 1), .int tn, .int sp, .ref (b 2), .ref (b 3), .ref (b 4), .ref (b 5), .int ac, .ref (b 6), .ref (b 7), .ref (b 8), .ref (b 9), .ref (b 10), .ref (b 11)]], [ia ty (b 4) 57 (minsR F rt)], [la ty (b 9) 2 (tw (minsX F rt xt) (minsY F rt yt))]]) H := P_perm (po (bs := [[ia ty (b 4) 57 (minsR F rt)], [la ty (b 9) 2 (tw (minsX F rt xt) (minsY F rt yt))], [ob (b 0) 9 [.int rf, .ref (b 1), .int tn, .int sp, .ref (b 2), .ref (b 3), .ref (b 4), .ref (b 5), .int ac, .ref (b 6), .ref (b 7), .ref (b 8), .ref (b 9), .ref (b 10), .ref (b 11)]]]) [2, 0, 1] 3 rfl (by decide +kernel) rfl) hP
        have hD : va_D A (fl [[ob (b 0) 9 [.int rf, .ref (b 1), .int tn, .int sp, .ref (b 2), .ref (b 3), .ref (b 4), .ref (b 5), .int ac, .ref (b 6), .ref (b 7), .ref (b 8), .ref (b 9), .ref (b 10), .ref (b 11)]], [ia ty (b 4) 57 (minsR F rt)], [la ty (b 9) 2 (tw (minsX F rt xt) (minsY F rt yt))]]) := D_perm (po (bs := [[ia ty (b 4) 57 (minsR F rt)], [la ty (b 9) 2 (tw (minsX F rt xt) (minsY F rt yt))], [ob (b 0) 9 [.int rf, .ref (b 1), .int tn, .int sp, .ref (b 2), .ref (b 3), .ref (b 4), .ref (b 5), .int ac, .ref (b 6), .ref (b 7), .ref (b 8), .ref (b 9), .ref (b 10), .ref (b 11)]]]) [2, 0, 1] 3 rfl (by decide +kernel) rfl) hD
        refine lv_iconst (v := 1) hx hb dX10_does_106 (by decide) ?_
        have hv89_2 := (inv_nat (n := F) (by omega) 1 1440 (by decide +kernel) (by decide +kernel)).mp c_69
        have hK1 : gg / 10000 = 1 := by have q8 := (nI_eq (a := K) (b := 1) (by omega) (by decide)).mp c_65; omega
        have hC := cm1y (r := rt) hK1 hF (by omega)
        have hP : va_P D vwCl (fl [[ob (b 0) 9 [.int rf, .ref (b 1), .int tn, .int sp, .ref (b 2), .ref (b 3), .ref (b 4), .ref (b 5), .int ac, .ref (b 6), .ref (b 7), .ref (b 8), .ref (b 9), .ref (b 10), .ref (b 11)]], [ia ty (b 4) 57 (cmdR gg rt)], [la ty (b 9) 2 (tw (minsX (cmdN gg) rt xt) (minsY (cmdN gg) rt yt))]]) H := by rw [hC.2.1, hC.2.2]; exact hP
        have hD : va_D A (fl [[ob (b 0) 9 [.int rf, .ref (b 1), .int tn, .int sp, .ref (b 2), .ref (b 3), .ref (b 4), .ref (b 5), .int ac, .ref (b 6), .ref (b 7), .ref (b 8), .ref (b 9), .ref (b 10), .ref (b 11)]], [ia ty (b 4) 57 (cmdR gg rt)], [la ty (b 9) 2 (tw (minsX (cmdN gg) rt xt) (minsY (cmdN gg) rt yt))]]) := (D_same2 hD [(b 0), (b 4), (b 9)] rfl rfl)
        exact end_z (bs' := (fun (_ : Unit) => [[ob (b 0) 9 [.int rf, .ref (b 1), .int tn, .int sp, .ref (b 2), .ref (b 3), .ref (b 4), .ref (b 5), .int ac, .ref (b 6), .ref (b 7), .ref (b 8), .ref (b 9), .ref (b 10), .ref (b 11)]], [ia ty (b 4) 57 (cmdR gg rt)], [la ty (b 9) 2 (tw (minsX (cmdN gg) rt xt) (minsY (cmdN gg) rt yt))]])) () hx hb hr hlocks rfl hP hD hS hC.1.symm (Nat.le_of_ble_eq_true rfl) (Nat.le_of_ble_eq_true rfl) dX10_does_107
      · skip
        refine lv_iconst (v := 0) hx hb dX10_does_92 (by decide) ?_
        have hv89_2 := inv_natn (n := F) (by omega) 1 1440 (by decide +kernel) (by decide +kernel) c_69
        have hK1 : gg / 10000 = 1 := by have q8 := (nI_eq (a := K) (b := 1) (by omega) (by decide)).mp c_65; omega
        have hC := cm1n (r := rt) hK1 hF (by omega)
        have hP : va_P D vwCl (fl [[ob (b 0) 9 [.int rf, .ref (b 1), .int tn, .int sp, .ref (b 2), .ref (b 3), .ref (b 4), .ref (b 5), .int ac, .ref (b 6), .ref (b 7), .ref (b 8), .ref (b 9), .ref (b 10), .ref (b 11)]], [ia ty (b 4) 57 (cmdR gg rt)], [la ty (b 9) 2 (tw (minsX (cmdN gg) rt xt) (minsY (cmdN gg) rt yt))]]) H := by rw [hC.2.1, hC.2.2]; exact hP
        have hD : va_D A (fl [[ob (b 0) 9 [.int rf, .ref (b 1), .int tn, .int sp, .ref (b 2), .ref (b 3), .ref (b 4), .ref (b 5), .int ac, .ref (b 6), .ref (b 7), .ref (b 8), .ref (b 9), .ref (b 10), .ref (b 11)]], [ia ty (b 4) 57 (cmdR gg rt)], [la ty (b 9) 2 (tw (minsX (cmdN gg) rt xt) (minsY (cmdN gg) rt yt))]]) := (D_same2 hD [(b 0), (b 4), (b 9)] rfl rfl)
        exact end_z (bs' := (fun (_ : Unit) => [[ob (b 0) 9 [.int rf, .ref (b 1), .int tn, .int sp, .ref (b 2), .ref (b 3), .ref (b 4), .ref (b 5), .int ac, .ref (b 6), .ref (b 7), .ref (b 8), .ref (b 9), .ref (b 10), .ref (b 11)]], [ia ty (b 4) 57 (cmdR gg rt)], [la ty (b 9) 2 (tw (minsX (cmdN gg) rt xt) (minsY (cmdN gg) rt yt))]])) () hx hb hr hlocks rfl hP hD hS hC.1.symm (Nat.le_of_ble_eq_true rfl) (Nat.le_of_ble_eq_true rfl) dX10_does_93
    rcases Classical.em ((nI K) = 2) with c_73 | c_73
    · refine lv_tableIn (tgt := 108) (off := 77) hx hb dX10_does_31 (by first | (rw [c_73]; done) | (rw [c_73]; decide)) (by first | (rw [c_73]; done) | (rw [c_73]; decide)) (by first | (rw [c_73]; done) | (rw [c_73]; rfl)) (by decide) ?_
      refine lv_iload_n hx hb dX10_does_108 rfl (lv_at hl 5 rfl) ?_
      refine lv_bipush (v := 9) hx hb dX10_does_109 (by decide) ?_
      refine lv_icmp_le (tgt := 116) hx hb dX10_does_111 (by decide) (fun c_74 => ?_) (fun c_74 => ?_)
      · skip
        refine lv_aload_n hx hb dX10_does_116 rfl (lv_at hl 3 rfl) ?_
        refine va_get (D := D) (ci := 9) (v := .ref (b 4)) (C := RX10) (T := TX10) (N := 15) hx hb hts i_X10 hown hK hP 0 rfl rfl 6 (by decide) (hts (Cond.fieldLink RX10 19 "BrownClockModel" "trial" "[I") (List.mem_of_getElem? (i := 1) rfl)) (fun _ h9 => h9) rfl dX10_does_117 ?_
        refine lv_iload_n hx hb dX10_does_120 rfl (lv_at hl 5 rfl) ?_
        refine cSv (As := [.ref (b 4), .int (nI F)]) (rest := []) ⟨hx, hb, hml, hown, hts⟩ (c_X10_levelOn l D ty (b 4) (nI F) rt) (va_cwS 2 hts gX10_does_X10_levelOn rfl rfl rfl (by decide +kernel) ⟨Nat.le_of_ble_eq_true rfl, Nat.le_of_ble_eq_true rfl⟩) hK hX hP hD hS hA (pk (bs := [[ob (b 0) 9 [.int rf, .ref (b 1), .int tn, .int sp, .ref (b 2), .ref (b 3), .ref (b 4), .ref (b 5), .int ac, .ref (b 6), .ref (b 7), .ref (b 8), .ref (b 9), .ref (b 10), .ref (b 11)]], [ia ty (b 4) 57 rt], [la ty (b 9) 2 (tw xt yt)]]) (bsc := [[ia ty (b 4) 57 rt]]) (bsr := [[ob (b 0) 9 [.int rf, .ref (b 1), .int tn, .int sp, .ref (b 2), .ref (b 3), .ref (b 4), .ref (b 5), .int ac, .ref (b 6), .ref (b 7), .ref (b 8), .ref (b 9), .ref (b 10), .ref (b 11)]], [la ty (b 9) 2 (tw xt yt)]]) [1] [0, 2] 3 rfl (by decide +kernel) rfl rfl) rfl hl.1 rfl (Nat.le_of_ble_eq_true rfl) dX10_does_121 ⟨Nat.le_of_ble_eq_true rfl, Nat.le_of_ble_eq_true rfl⟩ (fun u_75 h_77 H locs hP hD hS => ?_)
        have hP : va_P D vwCl (fl [[ob (b 0) 9 [.int rf, .ref (b 1), .int tn, .int sp, .ref (b 2), .ref (b 3), .ref (b 4), .ref (b 5), .int ac, .ref (b 6), .ref (b 7), .ref (b 8), .ref (b 9), .ref (b 10), .ref (b 11)]], [ia ty (b 4) 57 (plevel (nI F) rt)], [la ty (b 9) 2 (tw xt yt)]]) H := P_perm (po (bs := [[ia ty (b 4) 57 (plevel (nI F) rt)], [ob (b 0) 9 [.int rf, .ref (b 1), .int tn, .int sp, .ref (b 2), .ref (b 3), .ref (b 4), .ref (b 5), .int ac, .ref (b 6), .ref (b 7), .ref (b 8), .ref (b 9), .ref (b 10), .ref (b 11)]], [la ty (b 9) 2 (tw xt yt)]]) [1, 0, 2] 3 rfl (by decide +kernel) rfl) hP
        have hD : va_D A (fl [[ob (b 0) 9 [.int rf, .ref (b 1), .int tn, .int sp, .ref (b 2), .ref (b 3), .ref (b 4), .ref (b 5), .int ac, .ref (b 6), .ref (b 7), .ref (b 8), .ref (b 9), .ref (b 10), .ref (b 11)]], [ia ty (b 4) 57 (plevel (nI F) rt)], [la ty (b 9) 2 (tw xt yt)]]) := D_perm (po (bs := [[ia ty (b 4) 57 (plevel (nI F) rt)], [ob (b 0) 9 [.int rf, .ref (b 1), .int tn, .int sp, .ref (b 2), .ref (b 3), .ref (b 4), .ref (b 5), .int ac, .ref (b 6), .ref (b 7), .ref (b 8), .ref (b 9), .ref (b 10), .ref (b 11)]], [la ty (b 9) 2 (tw xt yt)]]) [1, 0, 2] 3 rfl (by decide +kernel) rfl) hD
        refine lv_iconst (v := 1) hx hb dX10_does_124 (by decide) ?_
        have hz111_2 := (nI_leI (a := F) (b := 9) (by omega) (by omega)).mp c_74
        have hK1 : gg / 10000 = 2 := by have q8 := (nI_eq (a := K) (b := 2) (by omega) (by decide)).mp c_73; omega
        have hC := cm2y (r := rt) hK1 hF (by omega)
        have hP : va_P D vwCl (fl [[ob (b 0) 9 [.int rf, .ref (b 1), .int tn, .int sp, .ref (b 2), .ref (b 3), .ref (b 4), .ref (b 5), .int ac, .ref (b 6), .ref (b 7), .ref (b 8), .ref (b 9), .ref (b 10), .ref (b 11)]], [ia ty (b 4) 57 (cmdR gg rt)], [la ty (b 9) 2 (tw (minsX (cmdN gg) rt xt) (minsY (cmdN gg) rt yt))]]) H := by rw [hC.2.1, hC.2.2]; exact hP
        have hD : va_D A (fl [[ob (b 0) 9 [.int rf, .ref (b 1), .int tn, .int sp, .ref (b 2), .ref (b 3), .ref (b 4), .ref (b 5), .int ac, .ref (b 6), .ref (b 7), .ref (b 8), .ref (b 9), .ref (b 10), .ref (b 11)]], [ia ty (b 4) 57 (cmdR gg rt)], [la ty (b 9) 2 (tw (minsX (cmdN gg) rt xt) (minsY (cmdN gg) rt yt))]]) := (D_same2 hD [(b 0), (b 4), (b 9)] rfl rfl)
        exact end_z (bs' := (fun (_ : Unit) => [[ob (b 0) 9 [.int rf, .ref (b 1), .int tn, .int sp, .ref (b 2), .ref (b 3), .ref (b 4), .ref (b 5), .int ac, .ref (b 6), .ref (b 7), .ref (b 8), .ref (b 9), .ref (b 10), .ref (b 11)]], [ia ty (b 4) 57 (cmdR gg rt)], [la ty (b 9) 2 (tw (minsX (cmdN gg) rt xt) (minsY (cmdN gg) rt yt))]])) () hx hb hr hlocks rfl hP hD hS hC.1.symm (Nat.le_of_ble_eq_true rfl) (Nat.le_of_ble_eq_true rfl) dX10_does_125
      · skip
        refine lv_iconst (v := 0) hx hb dX10_does_114 (by decide) ?_
        have hz111_2 := nle_of (a := F) (b := 9) (by omega) (by omega) c_74
        have hK1 : gg / 10000 = 2 := by have q8 := (nI_eq (a := K) (b := 2) (by omega) (by decide)).mp c_73; omega
        have hC := cm2n (r := rt) hK1 hF (by omega)
        have hP : va_P D vwCl (fl [[ob (b 0) 9 [.int rf, .ref (b 1), .int tn, .int sp, .ref (b 2), .ref (b 3), .ref (b 4), .ref (b 5), .int ac, .ref (b 6), .ref (b 7), .ref (b 8), .ref (b 9), .ref (b 10), .ref (b 11)]], [ia ty (b 4) 57 (cmdR gg rt)], [la ty (b 9) 2 (tw (minsX (cmdN gg) rt xt) (minsY (cmdN gg) rt yt))]]) H := by rw [hC.2.1, hC.2.2]; exact hP
        have hD : va_D A (fl [[ob (b 0) 9 [.int rf, .ref (b 1), .int tn, .int sp, .ref (b 2), .ref (b 3), .ref (b 4), .ref (b 5), .int ac, .ref (b 6), .ref (b 7), .ref (b 8), .ref (b 9), .ref (b 10), .ref (b 11)]], [ia ty (b 4) 57 (cmdR gg rt)], [la ty (b 9) 2 (tw (minsX (cmdN gg) rt xt) (minsY (cmdN gg) rt yt))]]) := (D_same2 hD [(b 0), (b 4), (b 9)] rfl rfl)
        exact end_z (bs' := (fun (_ : Unit) => [[ob (b 0) 9 [.int rf, .ref (b 1), .int tn, .int sp, .ref (b 2), .ref (b 3), .ref (b 4), .ref (b 5), .int ac, .ref (b 6), .ref (b 7), .ref (b 8), .ref (b 9), .ref (b 10), .ref (b 11)]], [ia ty (b 4) 57 (cmdR gg rt)], [la ty (b 9) 2 (tw (minsX (cmdN gg) rt xt) (minsY (cmdN gg) rt yt))]])) () hx hb hr hlocks rfl hP hD hS hC.1.symm (Nat.le_of_ble_eq_true rfl) (Nat.le_of_ble_eq_true rfl) dX10_does_115
    rcases Classical.em ((nI K) = 3) with c_78 | c_78
    · refine lv_tableIn (tgt := 126) (off := 95) hx hb dX10_does_31 (by first | (rw [c_78]; done) | (rw [c_78]; decide)) (by first | (rw [c_78]; done) | (rw [c_78]; decide)) (by first | (rw [c_78]; done) | (rw [c_78]; rfl)) (by decide) ?_
      refine lv_iload_n hx hb dX10_does_126 rfl (lv_at hl 2 rfl) ?_
      refine lv_iconst (v := 1) hx hb dX10_does_127 (by decide) ?_
      refine lv_icmp_gt (tgt := 144) hx hb dX10_does_128 (by decide) (fun c_79 => ?_) (fun c_79 => ?_)
      · skip
        refine lv_iconst (v := 0) hx hb dX10_does_144 (by decide) ?_
        have hz128_2 := (nI_ltI (a := 1) (b := Aa) (by omega) (by omega)).mp c_79
        have hK1 : gg / 10000 = 3 := by have q8 := (nI_eq (a := K) (b := 3) (by omega) (by decide)).mp c_78; omega
        have hC := cm3n (r := rt) hK1 hAa hTt (fun q => absurd (And.intro q.1 q.2.1) (by omega))
        have hP : va_P D vwCl (fl [[ob (b 0) 9 [.int rf, .ref (b 1), .int tn, .int sp, .ref (b 2), .ref (b 3), .ref (b 4), .ref (b 5), .int ac, .ref (b 6), .ref (b 7), .ref (b 8), .ref (b 9), .ref (b 10), .ref (b 11)]], [ia ty (b 4) 57 (cmdR gg rt)], [la ty (b 9) 2 (tw (minsX (cmdN gg) rt xt) (minsY (cmdN gg) rt yt))]]) H := by rw [hC.2.1, hC.2.2]; exact hP
        have hD : va_D A (fl [[ob (b 0) 9 [.int rf, .ref (b 1), .int tn, .int sp, .ref (b 2), .ref (b 3), .ref (b 4), .ref (b 5), .int ac, .ref (b 6), .ref (b 7), .ref (b 8), .ref (b 9), .ref (b 10), .ref (b 11)]], [ia ty (b 4) 57 (cmdR gg rt)], [la ty (b 9) 2 (tw (minsX (cmdN gg) rt xt) (minsY (cmdN gg) rt yt))]]) := (D_same2 hD [(b 0), (b 4), (b 9)] rfl rfl)
        exact end_z (bs' := (fun (_ : Unit) => [[ob (b 0) 9 [.int rf, .ref (b 1), .int tn, .int sp, .ref (b 2), .ref (b 3), .ref (b 4), .ref (b 5), .int ac, .ref (b 6), .ref (b 7), .ref (b 8), .ref (b 9), .ref (b 10), .ref (b 11)]], [ia ty (b 4) 57 (cmdR gg rt)], [la ty (b 9) 2 (tw (minsX (cmdN gg) rt xt) (minsY (cmdN gg) rt yt))]])) () hx hb hr hlocks rfl hP hD hS hC.1.symm (Nat.le_of_ble_eq_true rfl) (Nat.le_of_ble_eq_true rfl) dX10_does_145
      · skip
        refine lv_iload hx hb dX10_does_131 (lv_at hl 1 rfl) ?_
        refine lv_sipush (v := 500) hx hb dX10_does_133 (by decide) ?_
        refine lv_icmp_gt (tgt := 144) hx hb dX10_does_136 (by decide) (fun c_80 => ?_) (fun c_80 => ?_)
        · skip
          refine lv_iconst (v := 0) hx hb dX10_does_144 (by decide) ?_
          have hz128_2 := nlt_of (a := 1) (b := Aa) (by omega) (by omega) c_79
          have hz136_3 := (nI_ltI (a := 500) (b := Tt) (by omega) (by omega)).mp c_80
          have hK1 : gg / 10000 = 3 := by have q8 := (nI_eq (a := K) (b := 3) (by omega) (by decide)).mp c_78; omega
          have hC := cm3n (r := rt) hK1 hAa hTt (fun q => absurd (And.intro q.1 q.2.1) (by omega))
          have hP : va_P D vwCl (fl [[ob (b 0) 9 [.int rf, .ref (b 1), .int tn, .int sp, .ref (b 2), .ref (b 3), .ref (b 4), .ref (b 5), .int ac, .ref (b 6), .ref (b 7), .ref (b 8), .ref (b 9), .ref (b 10), .ref (b 11)]], [ia ty (b 4) 57 (cmdR gg rt)], [la ty (b 9) 2 (tw (minsX (cmdN gg) rt xt) (minsY (cmdN gg) rt yt))]]) H := by rw [hC.2.1, hC.2.2]; exact hP
          have hD : va_D A (fl [[ob (b 0) 9 [.int rf, .ref (b 1), .int tn, .int sp, .ref (b 2), .ref (b 3), .ref (b 4), .ref (b 5), .int ac, .ref (b 6), .ref (b 7), .ref (b 8), .ref (b 9), .ref (b 10), .ref (b 11)]], [ia ty (b 4) 57 (cmdR gg rt)], [la ty (b 9) 2 (tw (minsX (cmdN gg) rt xt) (minsY (cmdN gg) rt yt))]]) := (D_same2 hD [(b 0), (b 4), (b 9)] rfl rfl)
          exact end_z (bs' := (fun (_ : Unit) => [[ob (b 0) 9 [.int rf, .ref (b 1), .int tn, .int sp, .ref (b 2), .ref (b 3), .ref (b 4), .ref (b 5), .int ac, .ref (b 6), .ref (b 7), .ref (b 8), .ref (b 9), .ref (b 10), .ref (b 11)]], [ia ty (b 4) 57 (cmdR gg rt)], [la ty (b 9) 2 (tw (minsX (cmdN gg) rt xt) (minsY (cmdN gg) rt yt))]])) () hx hb hr hlocks rfl hP hD hS hC.1.symm (Nat.le_of_ble_eq_true rfl) (Nat.le_of_ble_eq_true rfl) dX10_does_145
        · skip
          refine lv_iload hx hb dX10_does_139 (lv_at hl 0 rfl) ?_
          refine lv_if_ne (tgt := 146) hx hb dX10_does_141 (by decide) (fun c_81 => ?_) (fun c_81 => ?_)
          · skip
            refine lv_aload_n hx hb dX10_does_146 rfl (lv_at hl 3 rfl) ?_
            refine va_get (D := D) (ci := 9) (v := .ref (b 4)) (C := RX10) (T := TX10) (N := 15) hx hb hts i_X10 hown hK hP 0 rfl rfl 6 (by decide) (hts (Cond.fieldLink RX10 19 "BrownClockModel" "trial" "[I") (List.mem_of_getElem? (i := 1) rfl)) (fun _ h9 => h9) rfl dX10_does_147 ?_
            refine lv_iconst (v := 4) hx hb dX10_does_150 (by decide) ?_
            refine lv_iload_n hx hb dX10_does_151 rfl (lv_at hl 2 rfl) ?_
            refine lv_if_ne (tgt := 160) hx hb dX10_does_152 (by decide) (fun c_82 => ?_) (fun c_82 => ?_)
            · skip
              refine lv_iload hx hb dX10_does_160 (lv_at hl 1 rfl) ?_
              refine k_ineg (v := (-(nI Tt))) hx hb dX10_does_162 rfl ?_
              refine k_iast hx hb hK hP hD hS 1 rfl 4 rfl (by decide) (Nat.le_of_ble_eq_true rfl) dX10_does_163 (fun H locs hP hD hS => ?_)
              have hP : va_P D vwCl (fl [[ob (b 0) 9 [.int rf, .ref (b 1), .int tn, .int sp, .ref (b 2), .ref (b 3), .ref (b 4), .ref (b 5), .int ac, .ref (b 6), .ref (b 7), .ref (b 8), .ref (b 9), .ref (b 10), .ref (b 11)]], [ia ty (b 4) 57 (upd rt 4 (-(nI Tt)))], [la ty (b 9) 2 (tw xt yt)]]) H := hP
              have hD : va_D A (fl [[ob (b 0) 9 [.int rf, .ref (b 1), .int tn, .int sp, .ref (b 2), .ref (b 3), .ref (b 4), .ref (b 5), .int ac, .ref (b 6), .ref (b 7), .ref (b 8), .ref (b 9), .ref (b 10), .ref (b 11)]], [ia ty (b 4) 57 (upd rt 4 (-(nI Tt)))], [la ty (b 9) 2 (tw xt yt)]]) := hD
              refine lv_iconst (v := 1) hx hb dX10_does_164 (by decide) ?_
              have hz128_2 := nlt_of (a := 1) (b := Aa) (by omega) (by omega) c_79
              have hz136_3 := nlt_of (a := 500) (b := Tt) (by omega) (by omega) c_80
              have hz141_4 := neq_of (a := 1) (b := 0) (by omega) (by omega) c_81
              have hz152_5 := neq_of (a := Aa) (b := 0) (by omega) (by omega) c_82
              have hK1 : gg / 10000 = 3 := by have q8 := (nI_eq (a := K) (b := 3) (by omega) (by decide)).mp c_78; omega
              have hsg := sgnv_1 (a := Aa) (b := Tt) (by omega)
              have hC := cm3y (r := rt) hK1 hAa hTt ⟨by omega, by omega, c_4⟩
              have hP : va_P D vwCl (fl [[ob (b 0) 9 [.int rf, .ref (b 1), .int tn, .int sp, .ref (b 2), .ref (b 3), .ref (b 4), .ref (b 5), .int ac, .ref (b 6), .ref (b 7), .ref (b 8), .ref (b 9), .ref (b 10), .ref (b 11)]], [ia ty (b 4) 57 (cmdR gg rt)], [la ty (b 9) 2 (tw (minsX (cmdN gg) rt xt) (minsY (cmdN gg) rt yt))]]) H := by rw [hC.2.1, hC.2.2, hsg]; exact hP
              have hD : va_D A (fl [[ob (b 0) 9 [.int rf, .ref (b 1), .int tn, .int sp, .ref (b 2), .ref (b 3), .ref (b 4), .ref (b 5), .int ac, .ref (b 6), .ref (b 7), .ref (b 8), .ref (b 9), .ref (b 10), .ref (b 11)]], [ia ty (b 4) 57 (cmdR gg rt)], [la ty (b 9) 2 (tw (minsX (cmdN gg) rt xt) (minsY (cmdN gg) rt yt))]]) := (D_same2 hD [(b 0), (b 4), (b 9)] rfl rfl)
              exact end_z (bs' := (fun (_ : Unit) => [[ob (b 0) 9 [.int rf, .ref (b 1), .int tn, .int sp, .ref (b 2), .ref (b 3), .ref (b 4), .ref (b 5), .int ac, .ref (b 6), .ref (b 7), .ref (b 8), .ref (b 9), .ref (b 10), .ref (b 11)]], [ia ty (b 4) 57 (cmdR gg rt)], [la ty (b 9) 2 (tw (minsX (cmdN gg) rt xt) (minsY (cmdN gg) rt yt))]])) () hx hb hr hlocks rfl hP hD hS hC.1.symm (Nat.le_of_ble_eq_true rfl) (Nat.le_of_ble_eq_true rfl) dX10_does_165
            · skip
              refine lv_iload hx hb dX10_does_155 (lv_at hl 1 rfl) ?_
              refine lv_goto (tgt := 163) hx hb dX10_does_157 (by decide) ?_
              refine k_iast hx hb hK hP hD hS 1 rfl 4 rfl (by decide) (Nat.le_of_ble_eq_true rfl) dX10_does_163 (fun H locs hP hD hS => ?_)
              have hP : va_P D vwCl (fl [[ob (b 0) 9 [.int rf, .ref (b 1), .int tn, .int sp, .ref (b 2), .ref (b 3), .ref (b 4), .ref (b 5), .int ac, .ref (b 6), .ref (b 7), .ref (b 8), .ref (b 9), .ref (b 10), .ref (b 11)]], [ia ty (b 4) 57 (upd rt 4 (nI Tt))], [la ty (b 9) 2 (tw xt yt)]]) H := hP
              have hD : va_D A (fl [[ob (b 0) 9 [.int rf, .ref (b 1), .int tn, .int sp, .ref (b 2), .ref (b 3), .ref (b 4), .ref (b 5), .int ac, .ref (b 6), .ref (b 7), .ref (b 8), .ref (b 9), .ref (b 10), .ref (b 11)]], [ia ty (b 4) 57 (upd rt 4 (nI Tt))], [la ty (b 9) 2 (tw xt yt)]]) := hD
              refine lv_iconst (v := 1) hx hb dX10_does_164 (by decide) ?_
              have hz128_2 := nlt_of (a := 1) (b := Aa) (by omega) (by omega) c_79
              have hz136_3 := nlt_of (a := 500) (b := Tt) (by omega) (by omega) c_80
              have hz141_4 := neq_of (a := 1) (b := 0) (by omega) (by omega) c_81
              have hz152_5 := (nI_eq (a := Aa) (b := 0) (by omega) (by omega)).mp c_82
              have hK1 : gg / 10000 = 3 := by have q8 := (nI_eq (a := K) (b := 3) (by omega) (by decide)).mp c_78; omega
              have hsg := sgnv_0 (a := Aa) (b := Tt) (by omega)
              have hC := cm3y (r := rt) hK1 hAa hTt ⟨by omega, by omega, c_4⟩
              have hP : va_P D vwCl (fl [[ob (b 0) 9 [.int rf, .ref (b 1), .int tn, .int sp, .ref (b 2), .ref (b 3), .ref (b 4), .ref (b 5), .int ac, .ref (b 6), .ref (b 7), .ref (b 8), .ref (b 9), .ref (b 10), .ref (b 11)]], [ia ty (b 4) 57 (cmdR gg rt)], [la ty (b 9) 2 (tw (minsX (cmdN gg) rt xt) (minsY (cmdN gg) rt yt))]]) H := by rw [hC.2.1, hC.2.2, hsg]; exact hP
              have hD : va_D A (fl [[ob (b 0) 9 [.int rf, .ref (b 1), .int tn, .int sp, .ref (b 2), .ref (b 3), .ref (b 4), .ref (b 5), .int ac, .ref (b 6), .ref (b 7), .ref (b 8), .ref (b 9), .ref (b 10), .ref (b 11)]], [ia ty (b 4) 57 (cmdR gg rt)], [la ty (b 9) 2 (tw (minsX (cmdN gg) rt xt) (minsY (cmdN gg) rt yt))]]) := (D_same2 hD [(b 0), (b 4), (b 9)] rfl rfl)
              exact end_z (bs' := (fun (_ : Unit) => [[ob (b 0) 9 [.int rf, .ref (b 1), .int tn, .int sp, .ref (b 2), .ref (b 3), .ref (b 4), .ref (b 5), .int ac, .ref (b 6), .ref (b 7), .ref (b 8), .ref (b 9), .ref (b 10), .ref (b 11)]], [ia ty (b 4) 57 (cmdR gg rt)], [la ty (b 9) 2 (tw (minsX (cmdN gg) rt xt) (minsY (cmdN gg) rt yt))]])) () hx hb hr hlocks rfl hP hD hS hC.1.symm (Nat.le_of_ble_eq_true rfl) (Nat.le_of_ble_eq_true rfl) dX10_does_165
          · first | exact absurd c_81 (by decide) | exact absurd (by decide) c_81
    rcases Classical.em ((nI K) = 4) with c_83 | c_83
    · refine lv_tableIn (tgt := 166) (off := 135) hx hb dX10_does_31 (by first | (rw [c_83]; done) | (rw [c_83]; decide)) (by first | (rw [c_83]; done) | (rw [c_83]; decide)) (by first | (rw [c_83]; done) | (rw [c_83]; rfl)) (by decide) ?_
      refine lv_iload_n hx hb dX10_does_166 rfl (lv_at hl 2 rfl) ?_
      refine cSi (As := [.int (nI Aa)]) (rest := []) ⟨hx, hb, hml, hown, hts⟩ (c_X10_isRegister l D ty (nI Aa)) (va_cwS 1 hts gX10_does_X10_isRegister rfl rfl rfl (by decide +kernel) ⟨Nat.le_of_ble_eq_true rfl, Nat.le_of_ble_eq_true rfl⟩) hK hX hP hD hS hA (pk (bs := [[ob (b 0) 9 [.int rf, .ref (b 1), .int tn, .int sp, .ref (b 2), .ref (b 3), .ref (b 4), .ref (b 5), .int ac, .ref (b 6), .ref (b 7), .ref (b 8), .ref (b 9), .ref (b 10), .ref (b 11)]], [ia ty (b 4) 57 rt], [la ty (b 9) 2 (tw xt yt)]]) (bsc := []) (bsr := [[ob (b 0) 9 [.int rf, .ref (b 1), .int tn, .int sp, .ref (b 2), .ref (b 3), .ref (b 4), .ref (b 5), .int ac, .ref (b 6), .ref (b 7), .ref (b 8), .ref (b 9), .ref (b 10), .ref (b 11)]], [ia ty (b 4) 57 rt], [la ty (b 9) 2 (tw xt yt)]]) [] [0, 1, 2] 3 rfl (by decide +kernel) rfl rfl) rfl hl.1 rfl (Nat.le_of_ble_eq_true rfl) dX10_does_167 ⟨Nat.le_of_ble_eq_true rfl, Nat.le_of_ble_eq_true rfl⟩ (fun r_85 u_84 h_86 H locs hP hD hS => ?_)
      have h_86 : r_85 = (inv (Int32.toInt64 (nI Aa)) 0 7) := h_86
      subst h_86
      have hP : va_P D vwCl (fl [[ob (b 0) 9 [.int rf, .ref (b 1), .int tn, .int sp, .ref (b 2), .ref (b 3), .ref (b 4), .ref (b 5), .int ac, .ref (b 6), .ref (b 7), .ref (b 8), .ref (b 9), .ref (b 10), .ref (b 11)]], [ia ty (b 4) 57 rt], [la ty (b 9) 2 (tw xt yt)]]) H := P_perm (po (bs := [[ob (b 0) 9 [.int rf, .ref (b 1), .int tn, .int sp, .ref (b 2), .ref (b 3), .ref (b 4), .ref (b 5), .int ac, .ref (b 6), .ref (b 7), .ref (b 8), .ref (b 9), .ref (b 10), .ref (b 11)]], [ia ty (b 4) 57 rt], [la ty (b 9) 2 (tw xt yt)]]) [0, 1, 2] 3 rfl (by decide +kernel) rfl) hP
      have hD : va_D A (fl [[ob (b 0) 9 [.int rf, .ref (b 1), .int tn, .int sp, .ref (b 2), .ref (b 3), .ref (b 4), .ref (b 5), .int ac, .ref (b 6), .ref (b 7), .ref (b 8), .ref (b 9), .ref (b 10), .ref (b 11)]], [ia ty (b 4) 57 rt], [la ty (b 9) 2 (tw xt yt)]]) := D_perm (po (bs := [[ob (b 0) 9 [.int rf, .ref (b 1), .int tn, .int sp, .ref (b 2), .ref (b 3), .ref (b 4), .ref (b 5), .int ac, .ref (b 6), .ref (b 7), .ref (b 8), .ref (b 9), .ref (b 10), .ref (b 11)]], [ia ty (b 4) 57 rt], [la ty (b 9) 2 (tw xt yt)]]) [0, 1, 2] 3 rfl (by decide +kernel) rfl) hD
      refine lv_if_eq (tgt := 186) hx hb dX10_does_170 (by decide) (fun c_87 => ?_) (fun c_87 => ?_)
      · skip
        refine lv_iconst (v := 0) hx hb dX10_does_186 (by decide) ?_
        have hv170_2 := inv_natn (n := Aa) (by omega) 0 7 (by decide +kernel) (by decide +kernel) c_87
        have hK1 : gg / 10000 = 4 := by have q8 := (nI_eq (a := K) (b := 4) (by omega) (by decide)).mp c_83; omega
        have hC := cm4n (r := rt) hK1 hAa hTt (fun q => absurd (And.intro q.1 q.2.1) (by omega))
        have hP : va_P D vwCl (fl [[ob (b 0) 9 [.int rf, .ref (b 1), .int tn, .int sp, .ref (b 2), .ref (b 3), .ref (b 4), .ref (b 5), .int ac, .ref (b 6), .ref (b 7), .ref (b 8), .ref (b 9), .ref (b 10), .ref (b 11)]], [ia ty (b 4) 57 (cmdR gg rt)], [la ty (b 9) 2 (tw (minsX (cmdN gg) rt xt) (minsY (cmdN gg) rt yt))]]) H := by rw [hC.2.1, hC.2.2]; exact hP
        have hD : va_D A (fl [[ob (b 0) 9 [.int rf, .ref (b 1), .int tn, .int sp, .ref (b 2), .ref (b 3), .ref (b 4), .ref (b 5), .int ac, .ref (b 6), .ref (b 7), .ref (b 8), .ref (b 9), .ref (b 10), .ref (b 11)]], [ia ty (b 4) 57 (cmdR gg rt)], [la ty (b 9) 2 (tw (minsX (cmdN gg) rt xt) (minsY (cmdN gg) rt yt))]]) := (D_same2 hD [(b 0), (b 4), (b 9)] rfl rfl)
        exact end_z (bs' := (fun (_ : Unit) => [[ob (b 0) 9 [.int rf, .ref (b 1), .int tn, .int sp, .ref (b 2), .ref (b 3), .ref (b 4), .ref (b 5), .int ac, .ref (b 6), .ref (b 7), .ref (b 8), .ref (b 9), .ref (b 10), .ref (b 11)]], [ia ty (b 4) 57 (cmdR gg rt)], [la ty (b 9) 2 (tw (minsX (cmdN gg) rt xt) (minsY (cmdN gg) rt yt))]])) () hx hb hr hlocks rfl hP hD hS hC.1.symm (Nat.le_of_ble_eq_true rfl) (Nat.le_of_ble_eq_true rfl) dX10_does_187
      · skip
        refine lv_iload hx hb dX10_does_173 (lv_at hl 1 rfl) ?_
        refine lv_sipush (v := 255) hx hb dX10_does_175 (by decide) ?_
        refine lv_icmp_gt (tgt := 186) hx hb dX10_does_178 (by decide) (fun c_88 => ?_) (fun c_88 => ?_)
        · skip
          refine lv_iconst (v := 0) hx hb dX10_does_186 (by decide) ?_
          have hz178_3 := (nI_ltI (a := 255) (b := Tt) (by omega) (by omega)).mp c_88
          have hv170_2 := (inv_nat (n := Aa) (by omega) 0 7 (by decide +kernel) (by decide +kernel)).mp c_87
          have hK1 : gg / 10000 = 4 := by have q8 := (nI_eq (a := K) (b := 4) (by omega) (by decide)).mp c_83; omega
          have hC := cm4n (r := rt) hK1 hAa hTt (fun q => absurd (And.intro q.1 q.2.1) (by omega))
          have hP : va_P D vwCl (fl [[ob (b 0) 9 [.int rf, .ref (b 1), .int tn, .int sp, .ref (b 2), .ref (b 3), .ref (b 4), .ref (b 5), .int ac, .ref (b 6), .ref (b 7), .ref (b 8), .ref (b 9), .ref (b 10), .ref (b 11)]], [ia ty (b 4) 57 (cmdR gg rt)], [la ty (b 9) 2 (tw (minsX (cmdN gg) rt xt) (minsY (cmdN gg) rt yt))]]) H := by rw [hC.2.1, hC.2.2]; exact hP
          have hD : va_D A (fl [[ob (b 0) 9 [.int rf, .ref (b 1), .int tn, .int sp, .ref (b 2), .ref (b 3), .ref (b 4), .ref (b 5), .int ac, .ref (b 6), .ref (b 7), .ref (b 8), .ref (b 9), .ref (b 10), .ref (b 11)]], [ia ty (b 4) 57 (cmdR gg rt)], [la ty (b 9) 2 (tw (minsX (cmdN gg) rt xt) (minsY (cmdN gg) rt yt))]]) := (D_same2 hD [(b 0), (b 4), (b 9)] rfl rfl)
          exact end_z (bs' := (fun (_ : Unit) => [[ob (b 0) 9 [.int rf, .ref (b 1), .int tn, .int sp, .ref (b 2), .ref (b 3), .ref (b 4), .ref (b 5), .int ac, .ref (b 6), .ref (b 7), .ref (b 8), .ref (b 9), .ref (b 10), .ref (b 11)]], [ia ty (b 4) 57 (cmdR gg rt)], [la ty (b 9) 2 (tw (minsX (cmdN gg) rt xt) (minsY (cmdN gg) rt yt))]])) () hx hb hr hlocks rfl hP hD hS hC.1.symm (Nat.le_of_ble_eq_true rfl) (Nat.le_of_ble_eq_true rfl) dX10_does_187
        · skip
          refine lv_iload hx hb dX10_does_181 (lv_at hl 0 rfl) ?_
          refine lv_if_ne (tgt := 188) hx hb dX10_does_183 (by decide) (fun c_89 => ?_) (fun c_89 => ?_)
          · skip
            have hz178_3 := nlt_of (a := 255) (b := Tt) (by omega) (by omega) c_88
            have hz183_4 := neq_of (a := 1) (b := 0) (by omega) (by omega) c_89
            have hv170_2 := (inv_nat (n := Aa) (by omega) 0 7 (by decide +kernel) (by decide +kernel)).mp c_87
            refine lv_aload_n hx hb dX10_does_188 rfl (lv_at hl 3 rfl) ?_
            refine va_get (D := D) (ci := 9) (v := .ref (b 4)) (C := RX10) (T := TX10) (N := 15) hx hb hts i_X10 hown hK hP 0 rfl rfl 6 (by decide) (hts (Cond.fieldLink RX10 19 "BrownClockModel" "trial" "[I") (List.mem_of_getElem? (i := 1) rfl)) (fun _ h9 => h9) rfl dX10_does_189 ?_
            refine lv_bipush (v := 16) hx hb dX10_does_192 (by decide) ?_
            refine lv_iload_n hx hb dX10_does_194 rfl (lv_at hl 2 rfl) ?_
            refine k_iadd (v := (nI (16 + Aa))) hx hb dX10_does_195 (nI_add (16) (Aa)) ?_
            refine lv_iload hx hb dX10_does_196 (lv_at hl 1 rfl) ?_
            refine k_iast hx hb hK hP hD hS 1 rfl (16 + Aa) rfl (by omega) (Nat.le_of_ble_eq_true rfl) dX10_does_198 (fun H locs hP hD hS => ?_)
            have hP : va_P D vwCl (fl [[ob (b 0) 9 [.int rf, .ref (b 1), .int tn, .int sp, .ref (b 2), .ref (b 3), .ref (b 4), .ref (b 5), .int ac, .ref (b 6), .ref (b 7), .ref (b 8), .ref (b 9), .ref (b 10), .ref (b 11)]], [ia ty (b 4) 57 (upd rt (16 + Aa) (nI Tt))], [la ty (b 9) 2 (tw xt yt)]]) H := hP
            have hD : va_D A (fl [[ob (b 0) 9 [.int rf, .ref (b 1), .int tn, .int sp, .ref (b 2), .ref (b 3), .ref (b 4), .ref (b 5), .int ac, .ref (b 6), .ref (b 7), .ref (b 8), .ref (b 9), .ref (b 10), .ref (b 11)]], [ia ty (b 4) 57 (upd rt (16 + Aa) (nI Tt))], [la ty (b 9) 2 (tw xt yt)]]) := hD
            refine lv_iconst (v := 1) hx hb dX10_does_199 (by decide) ?_
            have hz178_3 := nlt_of (a := 255) (b := Tt) (by omega) (by omega) c_88
            have hz183_4 := neq_of (a := 1) (b := 0) (by omega) (by omega) c_89
            have hv170_2 := (inv_nat (n := Aa) (by omega) 0 7 (by decide +kernel) (by decide +kernel)).mp c_87
            have hK1 : gg / 10000 = 4 := by have q8 := (nI_eq (a := K) (b := 4) (by omega) (by decide)).mp c_83; omega
            have hC := cm4y (r := rt) hK1 hAa hTt ⟨by omega, by omega, c_4⟩
            have hP : va_P D vwCl (fl [[ob (b 0) 9 [.int rf, .ref (b 1), .int tn, .int sp, .ref (b 2), .ref (b 3), .ref (b 4), .ref (b 5), .int ac, .ref (b 6), .ref (b 7), .ref (b 8), .ref (b 9), .ref (b 10), .ref (b 11)]], [ia ty (b 4) 57 (cmdR gg rt)], [la ty (b 9) 2 (tw (minsX (cmdN gg) rt xt) (minsY (cmdN gg) rt yt))]]) H := by rw [hC.2.1, hC.2.2]; exact hP
            have hD : va_D A (fl [[ob (b 0) 9 [.int rf, .ref (b 1), .int tn, .int sp, .ref (b 2), .ref (b 3), .ref (b 4), .ref (b 5), .int ac, .ref (b 6), .ref (b 7), .ref (b 8), .ref (b 9), .ref (b 10), .ref (b 11)]], [ia ty (b 4) 57 (cmdR gg rt)], [la ty (b 9) 2 (tw (minsX (cmdN gg) rt xt) (minsY (cmdN gg) rt yt))]]) := (D_same2 hD [(b 0), (b 4), (b 9)] rfl rfl)
            exact end_z (bs' := (fun (_ : Unit) => [[ob (b 0) 9 [.int rf, .ref (b 1), .int tn, .int sp, .ref (b 2), .ref (b 3), .ref (b 4), .ref (b 5), .int ac, .ref (b 6), .ref (b 7), .ref (b 8), .ref (b 9), .ref (b 10), .ref (b 11)]], [ia ty (b 4) 57 (cmdR gg rt)], [la ty (b 9) 2 (tw (minsX (cmdN gg) rt xt) (minsY (cmdN gg) rt yt))]])) () hx hb hr hlocks rfl hP hD hS hC.1.symm (Nat.le_of_ble_eq_true rfl) (Nat.le_of_ble_eq_true rfl) dX10_does_200
          · first | exact absurd c_89 (by decide) | exact absurd (by decide) c_89
    rcases Classical.em ((nI K) = 5) with c_90 | c_90
    · refine lv_tableIn (tgt := 201) (off := 170) hx hb dX10_does_31 (by first | (rw [c_90]; done) | (rw [c_90]; decide)) (by first | (rw [c_90]; done) | (rw [c_90]; decide)) (by first | (rw [c_90]; done) | (rw [c_90]; rfl)) (by decide) ?_
      refine lv_iload_n hx hb dX10_does_201 rfl (lv_at hl 5 rfl) ?_
      refine cSi (As := [.int (nI F)]) (rest := []) ⟨hx, hb, hml, hown, hts⟩ (c_X10_isPin l D ty (nI F)) (va_cwS 1 hts gX10_does_X10_isPin rfl rfl rfl (by decide +kernel) ⟨Nat.le_of_ble_eq_true rfl, Nat.le_of_ble_eq_true rfl⟩) hK hX hP hD hS hA (pk (bs := [[ob (b 0) 9 [.int rf, .ref (b 1), .int tn, .int sp, .ref (b 2), .ref (b 3), .ref (b 4), .ref (b 5), .int ac, .ref (b 6), .ref (b 7), .ref (b 8), .ref (b 9), .ref (b 10), .ref (b 11)]], [ia ty (b 4) 57 rt], [la ty (b 9) 2 (tw xt yt)]]) (bsc := []) (bsr := [[ob (b 0) 9 [.int rf, .ref (b 1), .int tn, .int sp, .ref (b 2), .ref (b 3), .ref (b 4), .ref (b 5), .int ac, .ref (b 6), .ref (b 7), .ref (b 8), .ref (b 9), .ref (b 10), .ref (b 11)]], [ia ty (b 4) 57 rt], [la ty (b 9) 2 (tw xt yt)]]) [] [0, 1, 2] 3 rfl (by decide +kernel) rfl rfl) rfl hl.1 rfl (Nat.le_of_ble_eq_true rfl) dX10_does_202 ⟨Nat.le_of_ble_eq_true rfl, Nat.le_of_ble_eq_true rfl⟩ (fun r_92 u_91 h_93 H locs hP hD hS => ?_)
      have h_93 : r_92 = (inv (Int32.toInt64 (nI F)) 0 2) := h_93
      subst h_93
      have hP : va_P D vwCl (fl [[ob (b 0) 9 [.int rf, .ref (b 1), .int tn, .int sp, .ref (b 2), .ref (b 3), .ref (b 4), .ref (b 5), .int ac, .ref (b 6), .ref (b 7), .ref (b 8), .ref (b 9), .ref (b 10), .ref (b 11)]], [ia ty (b 4) 57 rt], [la ty (b 9) 2 (tw xt yt)]]) H := P_perm (po (bs := [[ob (b 0) 9 [.int rf, .ref (b 1), .int tn, .int sp, .ref (b 2), .ref (b 3), .ref (b 4), .ref (b 5), .int ac, .ref (b 6), .ref (b 7), .ref (b 8), .ref (b 9), .ref (b 10), .ref (b 11)]], [ia ty (b 4) 57 rt], [la ty (b 9) 2 (tw xt yt)]]) [0, 1, 2] 3 rfl (by decide +kernel) rfl) hP
      have hD : va_D A (fl [[ob (b 0) 9 [.int rf, .ref (b 1), .int tn, .int sp, .ref (b 2), .ref (b 3), .ref (b 4), .ref (b 5), .int ac, .ref (b 6), .ref (b 7), .ref (b 8), .ref (b 9), .ref (b 10), .ref (b 11)]], [ia ty (b 4) 57 rt], [la ty (b 9) 2 (tw xt yt)]]) := D_perm (po (bs := [[ob (b 0) 9 [.int rf, .ref (b 1), .int tn, .int sp, .ref (b 2), .ref (b 3), .ref (b 4), .ref (b 5), .int ac, .ref (b 6), .ref (b 7), .ref (b 8), .ref (b 9), .ref (b 10), .ref (b 11)]], [ia ty (b 4) 57 rt], [la ty (b 9) 2 (tw xt yt)]]) [0, 1, 2] 3 rfl (by decide +kernel) rfl) hD
      refine lv_if_ne (tgt := 210) hx hb dX10_does_205 (by decide) (fun c_94 => ?_) (fun c_94 => ?_)
      · skip
        have hv205_2 := (inv_nat (n := F) (by omega) 0 2 (by decide +kernel) (by decide +kernel)).mp c_94
        refine lv_aload_n hx hb dX10_does_210 rfl (lv_at hl 3 rfl) ?_
        refine va_get (D := D) (ci := 9) (v := .ref (b 4)) (C := RX10) (T := TX10) (N := 15) hx hb hts i_X10 hown hK hP 0 rfl rfl 6 (by decide) (hts (Cond.fieldLink RX10 19 "BrownClockModel" "trial" "[I") (List.mem_of_getElem? (i := 1) rfl)) (fun _ h9 => h9) rfl dX10_does_211 ?_
        refine lv_iload_n hx hb dX10_does_214 rfl (lv_at hl 5 rfl) ?_
        refine cSv (As := [.ref (b 4), .int (nI F)]) (rest := []) ⟨hx, hb, hml, hown, hts⟩ (c_X10_tamperOn l D ty (b 4) (nI F) rt (nI_pos (by omega)) (nI_lt (b := 3) (by omega) (by omega)) (hp.1.1) (hpin_of hp (by omega))) (va_cwS 2 hts gX10_does_X10_tamperOn rfl rfl rfl (by decide +kernel) ⟨Nat.le_of_ble_eq_true rfl, Nat.le_of_ble_eq_true rfl⟩) hK hX hP hD hS hA (pk (bs := [[ob (b 0) 9 [.int rf, .ref (b 1), .int tn, .int sp, .ref (b 2), .ref (b 3), .ref (b 4), .ref (b 5), .int ac, .ref (b 6), .ref (b 7), .ref (b 8), .ref (b 9), .ref (b 10), .ref (b 11)]], [ia ty (b 4) 57 rt], [la ty (b 9) 2 (tw xt yt)]]) (bsc := [[ia ty (b 4) 57 rt]]) (bsr := [[ob (b 0) 9 [.int rf, .ref (b 1), .int tn, .int sp, .ref (b 2), .ref (b 3), .ref (b 4), .ref (b 5), .int ac, .ref (b 6), .ref (b 7), .ref (b 8), .ref (b 9), .ref (b 10), .ref (b 11)]], [la ty (b 9) 2 (tw xt yt)]]) [1] [0, 2] 3 rfl (by decide +kernel) rfl rfl) rfl hl.1 rfl (Nat.le_of_ble_eq_true rfl) dX10_does_215 ⟨Nat.le_of_ble_eq_true rfl, Nat.le_of_ble_eq_true rfl⟩ (fun u_95 h_97 H locs hP hD hS => ?_)
        have hP : va_P D vwCl (fl [[ob (b 0) 9 [.int rf, .ref (b 1), .int tn, .int sp, .ref (b 2), .ref (b 3), .ref (b 4), .ref (b 5), .int ac, .ref (b 6), .ref (b 7), .ref (b 8), .ref (b 9), .ref (b 10), .ref (b 11)]], [ia ty (b 4) 57 (ptamper (nI F) rt)], [la ty (b 9) 2 (tw xt yt)]]) H := P_perm (po (bs := [[ia ty (b 4) 57 (ptamper (nI F) rt)], [ob (b 0) 9 [.int rf, .ref (b 1), .int tn, .int sp, .ref (b 2), .ref (b 3), .ref (b 4), .ref (b 5), .int ac, .ref (b 6), .ref (b 7), .ref (b 8), .ref (b 9), .ref (b 10), .ref (b 11)]], [la ty (b 9) 2 (tw xt yt)]]) [1, 0, 2] 3 rfl (by decide +kernel) rfl) hP
        have hD : va_D A (fl [[ob (b 0) 9 [.int rf, .ref (b 1), .int tn, .int sp, .ref (b 2), .ref (b 3), .ref (b 4), .ref (b 5), .int ac, .ref (b 6), .ref (b 7), .ref (b 8), .ref (b 9), .ref (b 10), .ref (b 11)]], [ia ty (b 4) 57 (ptamper (nI F) rt)], [la ty (b 9) 2 (tw xt yt)]]) := D_perm (po (bs := [[ia ty (b 4) 57 (ptamper (nI F) rt)], [ob (b 0) 9 [.int rf, .ref (b 1), .int tn, .int sp, .ref (b 2), .ref (b 3), .ref (b 4), .ref (b 5), .int ac, .ref (b 6), .ref (b 7), .ref (b 8), .ref (b 9), .ref (b 10), .ref (b 11)]], [la ty (b 9) 2 (tw xt yt)]]) [1, 0, 2] 3 rfl (by decide +kernel) rfl) hD
        refine lv_iconst (v := 1) hx hb dX10_does_218 (by decide) ?_
        have hv205_2 := (inv_nat (n := F) (by omega) 0 2 (by decide +kernel) (by decide +kernel)).mp c_94
        have hK1 : gg / 10000 = 5 := by have q8 := (nI_eq (a := K) (b := 5) (by omega) (by decide)).mp c_90; omega
        have hC := cm5y (r := rt) hK1 hF (by omega)
        have hP : va_P D vwCl (fl [[ob (b 0) 9 [.int rf, .ref (b 1), .int tn, .int sp, .ref (b 2), .ref (b 3), .ref (b 4), .ref (b 5), .int ac, .ref (b 6), .ref (b 7), .ref (b 8), .ref (b 9), .ref (b 10), .ref (b 11)]], [ia ty (b 4) 57 (cmdR gg rt)], [la ty (b 9) 2 (tw (minsX (cmdN gg) rt xt) (minsY (cmdN gg) rt yt))]]) H := by rw [hC.2.1, hC.2.2]; exact hP
        have hD : va_D A (fl [[ob (b 0) 9 [.int rf, .ref (b 1), .int tn, .int sp, .ref (b 2), .ref (b 3), .ref (b 4), .ref (b 5), .int ac, .ref (b 6), .ref (b 7), .ref (b 8), .ref (b 9), .ref (b 10), .ref (b 11)]], [ia ty (b 4) 57 (cmdR gg rt)], [la ty (b 9) 2 (tw (minsX (cmdN gg) rt xt) (minsY (cmdN gg) rt yt))]]) := (D_same2 hD [(b 0), (b 4), (b 9)] rfl rfl)
        exact end_z (bs' := (fun (_ : Unit) => [[ob (b 0) 9 [.int rf, .ref (b 1), .int tn, .int sp, .ref (b 2), .ref (b 3), .ref (b 4), .ref (b 5), .int ac, .ref (b 6), .ref (b 7), .ref (b 8), .ref (b 9), .ref (b 10), .ref (b 11)]], [ia ty (b 4) 57 (cmdR gg rt)], [la ty (b 9) 2 (tw (minsX (cmdN gg) rt xt) (minsY (cmdN gg) rt yt))]])) () hx hb hr hlocks rfl hP hD hS hC.1.symm (Nat.le_of_ble_eq_true rfl) (Nat.le_of_ble_eq_true rfl) dX10_does_219
      · skip
        refine lv_iconst (v := 0) hx hb dX10_does_208 (by decide) ?_
        have hv205_2 := inv_natn (n := F) (by omega) 0 2 (by decide +kernel) (by decide +kernel) c_94
        have hK1 : gg / 10000 = 5 := by have q8 := (nI_eq (a := K) (b := 5) (by omega) (by decide)).mp c_90; omega
        have hC := cm5n (r := rt) hK1 hF (by omega)
        have hP : va_P D vwCl (fl [[ob (b 0) 9 [.int rf, .ref (b 1), .int tn, .int sp, .ref (b 2), .ref (b 3), .ref (b 4), .ref (b 5), .int ac, .ref (b 6), .ref (b 7), .ref (b 8), .ref (b 9), .ref (b 10), .ref (b 11)]], [ia ty (b 4) 57 (cmdR gg rt)], [la ty (b 9) 2 (tw (minsX (cmdN gg) rt xt) (minsY (cmdN gg) rt yt))]]) H := by rw [hC.2.1, hC.2.2]; exact hP
        have hD : va_D A (fl [[ob (b 0) 9 [.int rf, .ref (b 1), .int tn, .int sp, .ref (b 2), .ref (b 3), .ref (b 4), .ref (b 5), .int ac, .ref (b 6), .ref (b 7), .ref (b 8), .ref (b 9), .ref (b 10), .ref (b 11)]], [ia ty (b 4) 57 (cmdR gg rt)], [la ty (b 9) 2 (tw (minsX (cmdN gg) rt xt) (minsY (cmdN gg) rt yt))]]) := (D_same2 hD [(b 0), (b 4), (b 9)] rfl rfl)
        exact end_z (bs' := (fun (_ : Unit) => [[ob (b 0) 9 [.int rf, .ref (b 1), .int tn, .int sp, .ref (b 2), .ref (b 3), .ref (b 4), .ref (b 5), .int ac, .ref (b 6), .ref (b 7), .ref (b 8), .ref (b 9), .ref (b 10), .ref (b 11)]], [ia ty (b 4) 57 (cmdR gg rt)], [la ty (b 9) 2 (tw (minsX (cmdN gg) rt xt) (minsY (cmdN gg) rt yt))]])) () hx hb hr hlocks rfl hP hD hS hC.1.symm (Nat.le_of_ble_eq_true rfl) (Nat.le_of_ble_eq_true rfl) dX10_does_209
    rcases Classical.em ((nI K) = 6) with c_98 | c_98
    · refine lv_tableIn (tgt := 220) (off := 189) hx hb dX10_does_31 (by first | (rw [c_98]; done) | (rw [c_98]; decide)) (by first | (rw [c_98]; done) | (rw [c_98]; decide)) (by first | (rw [c_98]; done) | (rw [c_98]; rfl)) (by decide) ?_
      refine lv_iload_n hx hb dX10_does_220 rfl (lv_at hl 2 rfl) ?_
      refine cSi (As := [.int (nI Aa)]) (rest := []) ⟨hx, hb, hml, hown, hts⟩ (c_X10_isAlarm l D ty (nI Aa)) (va_cwS 1 hts gX10_does_X10_isAlarm rfl rfl rfl (by decide +kernel) ⟨Nat.le_of_ble_eq_true rfl, Nat.le_of_ble_eq_true rfl⟩) hK hX hP hD hS hA (pk (bs := [[ob (b 0) 9 [.int rf, .ref (b 1), .int tn, .int sp, .ref (b 2), .ref (b 3), .ref (b 4), .ref (b 5), .int ac, .ref (b 6), .ref (b 7), .ref (b 8), .ref (b 9), .ref (b 10), .ref (b 11)]], [ia ty (b 4) 57 rt], [la ty (b 9) 2 (tw xt yt)]]) (bsc := []) (bsr := [[ob (b 0) 9 [.int rf, .ref (b 1), .int tn, .int sp, .ref (b 2), .ref (b 3), .ref (b 4), .ref (b 5), .int ac, .ref (b 6), .ref (b 7), .ref (b 8), .ref (b 9), .ref (b 10), .ref (b 11)]], [ia ty (b 4) 57 rt], [la ty (b 9) 2 (tw xt yt)]]) [] [0, 1, 2] 3 rfl (by decide +kernel) rfl rfl) rfl hl.1 rfl (Nat.le_of_ble_eq_true rfl) dX10_does_221 ⟨Nat.le_of_ble_eq_true rfl, Nat.le_of_ble_eq_true rfl⟩ (fun r_100 u_99 h_101 H locs hP hD hS => ?_)
      have h_101 : r_100 = (inv (Int32.toInt64 (nI Aa)) 0 3) := h_101
      subst h_101
      have hP : va_P D vwCl (fl [[ob (b 0) 9 [.int rf, .ref (b 1), .int tn, .int sp, .ref (b 2), .ref (b 3), .ref (b 4), .ref (b 5), .int ac, .ref (b 6), .ref (b 7), .ref (b 8), .ref (b 9), .ref (b 10), .ref (b 11)]], [ia ty (b 4) 57 rt], [la ty (b 9) 2 (tw xt yt)]]) H := P_perm (po (bs := [[ob (b 0) 9 [.int rf, .ref (b 1), .int tn, .int sp, .ref (b 2), .ref (b 3), .ref (b 4), .ref (b 5), .int ac, .ref (b 6), .ref (b 7), .ref (b 8), .ref (b 9), .ref (b 10), .ref (b 11)]], [ia ty (b 4) 57 rt], [la ty (b 9) 2 (tw xt yt)]]) [0, 1, 2] 3 rfl (by decide +kernel) rfl) hP
      have hD : va_D A (fl [[ob (b 0) 9 [.int rf, .ref (b 1), .int tn, .int sp, .ref (b 2), .ref (b 3), .ref (b 4), .ref (b 5), .int ac, .ref (b 6), .ref (b 7), .ref (b 8), .ref (b 9), .ref (b 10), .ref (b 11)]], [ia ty (b 4) 57 rt], [la ty (b 9) 2 (tw xt yt)]]) := D_perm (po (bs := [[ob (b 0) 9 [.int rf, .ref (b 1), .int tn, .int sp, .ref (b 2), .ref (b 3), .ref (b 4), .ref (b 5), .int ac, .ref (b 6), .ref (b 7), .ref (b 8), .ref (b 9), .ref (b 10), .ref (b 11)]], [ia ty (b 4) 57 rt], [la ty (b 9) 2 (tw xt yt)]]) [0, 1, 2] 3 rfl (by decide +kernel) rfl) hD
      refine lv_if_eq (tgt := 232) hx hb dX10_does_224 (by decide) (fun c_102 => ?_) (fun c_102 => ?_)
      · skip
        refine lv_iconst (v := 0) hx hb dX10_does_232 (by decide) ?_
        have hv224_2 := inv_natn (n := Aa) (by omega) 0 3 (by decide +kernel) (by decide +kernel) c_102
        have hK1 : gg / 10000 = 6 := by have q8 := (nI_eq (a := K) (b := 6) (by omega) (by decide)).mp c_98; omega
        have hC := cm6n (r := rt) hK1 hAa hTt (by omega)
        have hP : va_P D vwCl (fl [[ob (b 0) 9 [.int rf, .ref (b 1), .int tn, .int sp, .ref (b 2), .ref (b 3), .ref (b 4), .ref (b 5), .int ac, .ref (b 6), .ref (b 7), .ref (b 8), .ref (b 9), .ref (b 10), .ref (b 11)]], [ia ty (b 4) 57 (cmdR gg rt)], [la ty (b 9) 2 (tw (minsX (cmdN gg) rt xt) (minsY (cmdN gg) rt yt))]]) H := by rw [hC.2.1, hC.2.2]; exact hP
        have hD : va_D A (fl [[ob (b 0) 9 [.int rf, .ref (b 1), .int tn, .int sp, .ref (b 2), .ref (b 3), .ref (b 4), .ref (b 5), .int ac, .ref (b 6), .ref (b 7), .ref (b 8), .ref (b 9), .ref (b 10), .ref (b 11)]], [ia ty (b 4) 57 (cmdR gg rt)], [la ty (b 9) 2 (tw (minsX (cmdN gg) rt xt) (minsY (cmdN gg) rt yt))]]) := (D_same2 hD [(b 0), (b 4), (b 9)] rfl rfl)
        exact end_z (bs' := (fun (_ : Unit) => [[ob (b 0) 9 [.int rf, .ref (b 1), .int tn, .int sp, .ref (b 2), .ref (b 3), .ref (b 4), .ref (b 5), .int ac, .ref (b 6), .ref (b 7), .ref (b 8), .ref (b 9), .ref (b 10), .ref (b 11)]], [ia ty (b 4) 57 (cmdR gg rt)], [la ty (b 9) 2 (tw (minsX (cmdN gg) rt xt) (minsY (cmdN gg) rt yt))]])) () hx hb hr hlocks rfl hP hD hS hC.1.symm (Nat.le_of_ble_eq_true rfl) (Nat.le_of_ble_eq_true rfl) dX10_does_233
      · skip
        refine lv_iload hx hb dX10_does_227 (lv_at hl 1 rfl) ?_
        refine lv_if_eq (tgt := 234) hx hb dX10_does_229 (by decide) (fun c_103 => ?_) (fun c_103 => ?_)
        · skip
          have hz229_3 := (nI_eq (a := Tt) (b := 0) (by omega) (by omega)).mp c_103
          have hv224_2 := (inv_nat (n := Aa) (by omega) 0 3 (by decide +kernel) (by decide +kernel)).mp c_102
          refine lv_aload_n hx hb dX10_does_234 rfl (lv_at hl 3 rfl) ?_
          refine va_get (D := D) (ci := 9) (v := .ref (b 4)) (C := RX10) (T := TX10) (N := 15) hx hb hts i_X10 hown hK hP 0 rfl rfl 6 (by decide) (hts (Cond.fieldLink RX10 19 "BrownClockModel" "trial" "[I") (List.mem_of_getElem? (i := 1) rfl)) (fun _ h9 => h9) rfl dX10_does_235 ?_
          refine lv_iload_n hx hb dX10_does_238 rfl (lv_at hl 2 rfl) ?_
          refine lv_sipush (v := 1440) hx hb dX10_does_239 (by decide) ?_
          refine cSv (As := [.ref (b 4), .int (nI Aa), .int 1440]) (rest := []) ⟨hx, hb, hml, hown, hts⟩ (c_X10_setAlarmOn l D ty (b 4) Aa 1440 rt (by omega)) (va_cwS 3 hts gX10_does_X10_setAlarmOn rfl rfl rfl (by decide +kernel) ⟨Nat.le_of_ble_eq_true rfl, Nat.le_of_ble_eq_true rfl⟩) hK hX hP hD hS hA (pk (bs := [[ob (b 0) 9 [.int rf, .ref (b 1), .int tn, .int sp, .ref (b 2), .ref (b 3), .ref (b 4), .ref (b 5), .int ac, .ref (b 6), .ref (b 7), .ref (b 8), .ref (b 9), .ref (b 10), .ref (b 11)]], [ia ty (b 4) 57 rt], [la ty (b 9) 2 (tw xt yt)]]) (bsc := [[ia ty (b 4) 57 rt]]) (bsr := [[ob (b 0) 9 [.int rf, .ref (b 1), .int tn, .int sp, .ref (b 2), .ref (b 3), .ref (b 4), .ref (b 5), .int ac, .ref (b 6), .ref (b 7), .ref (b 8), .ref (b 9), .ref (b 10), .ref (b 11)]], [la ty (b 9) 2 (tw xt yt)]]) [1] [0, 2] 3 rfl (by decide +kernel) rfl rfl) rfl hl.1 rfl (Nat.le_of_ble_eq_true rfl) dX10_does_242 ⟨Nat.le_of_ble_eq_true rfl, Nat.le_of_ble_eq_true rfl⟩ (fun u_104 h_106 H locs hP hD hS => ?_)
          have hP : va_P D vwCl (fl [[ob (b 0) 9 [.int rf, .ref (b 1), .int tn, .int sp, .ref (b 2), .ref (b 3), .ref (b 4), .ref (b 5), .int ac, .ref (b 6), .ref (b 7), .ref (b 8), .ref (b 9), .ref (b 10), .ref (b 11)]], [ia ty (b 4) 57 (psetAl Aa 1440 rt)], [la ty (b 9) 2 (tw xt yt)]]) H := P_perm (po (bs := [[ia ty (b 4) 57 (psetAl Aa 1440 rt)], [ob (b 0) 9 [.int rf, .ref (b 1), .int tn, .int sp, .ref (b 2), .ref (b 3), .ref (b 4), .ref (b 5), .int ac, .ref (b 6), .ref (b 7), .ref (b 8), .ref (b 9), .ref (b 10), .ref (b 11)]], [la ty (b 9) 2 (tw xt yt)]]) [1, 0, 2] 3 rfl (by decide +kernel) rfl) hP
          have hD : va_D A (fl [[ob (b 0) 9 [.int rf, .ref (b 1), .int tn, .int sp, .ref (b 2), .ref (b 3), .ref (b 4), .ref (b 5), .int ac, .ref (b 6), .ref (b 7), .ref (b 8), .ref (b 9), .ref (b 10), .ref (b 11)]], [ia ty (b 4) 57 (psetAl Aa 1440 rt)], [la ty (b 9) 2 (tw xt yt)]]) := D_perm (po (bs := [[ia ty (b 4) 57 (psetAl Aa 1440 rt)], [ob (b 0) 9 [.int rf, .ref (b 1), .int tn, .int sp, .ref (b 2), .ref (b 3), .ref (b 4), .ref (b 5), .int ac, .ref (b 6), .ref (b 7), .ref (b 8), .ref (b 9), .ref (b 10), .ref (b 11)]], [la ty (b 9) 2 (tw xt yt)]]) [1, 0, 2] 3 rfl (by decide +kernel) rfl) hD
          refine lv_iconst (v := 1) hx hb dX10_does_245 (by decide) ?_
          have hz229_3 := (nI_eq (a := Tt) (b := 0) (by omega) (by omega)).mp c_103
          have hv224_2 := (inv_nat (n := Aa) (by omega) 0 3 (by decide +kernel) (by decide +kernel)).mp c_102
          have hK1 : gg / 10000 = 6 := by have q8 := (nI_eq (a := K) (b := 6) (by omega) (by decide)).mp c_98; omega
          have hC := cm6y (r := rt) hK1 hAa hTt (by omega)
          have hP : va_P D vwCl (fl [[ob (b 0) 9 [.int rf, .ref (b 1), .int tn, .int sp, .ref (b 2), .ref (b 3), .ref (b 4), .ref (b 5), .int ac, .ref (b 6), .ref (b 7), .ref (b 8), .ref (b 9), .ref (b 10), .ref (b 11)]], [ia ty (b 4) 57 (cmdR gg rt)], [la ty (b 9) 2 (tw (minsX (cmdN gg) rt xt) (minsY (cmdN gg) rt yt))]]) H := by rw [hC.2.1, hC.2.2]; exact hP
          have hD : va_D A (fl [[ob (b 0) 9 [.int rf, .ref (b 1), .int tn, .int sp, .ref (b 2), .ref (b 3), .ref (b 4), .ref (b 5), .int ac, .ref (b 6), .ref (b 7), .ref (b 8), .ref (b 9), .ref (b 10), .ref (b 11)]], [ia ty (b 4) 57 (cmdR gg rt)], [la ty (b 9) 2 (tw (minsX (cmdN gg) rt xt) (minsY (cmdN gg) rt yt))]]) := (D_same2 hD [(b 0), (b 4), (b 9)] rfl rfl)
          exact end_z (bs' := (fun (_ : Unit) => [[ob (b 0) 9 [.int rf, .ref (b 1), .int tn, .int sp, .ref (b 2), .ref (b 3), .ref (b 4), .ref (b 5), .int ac, .ref (b 6), .ref (b 7), .ref (b 8), .ref (b 9), .ref (b 10), .ref (b 11)]], [ia ty (b 4) 57 (cmdR gg rt)], [la ty (b 9) 2 (tw (minsX (cmdN gg) rt xt) (minsY (cmdN gg) rt yt))]])) () hx hb hr hlocks rfl hP hD hS hC.1.symm (Nat.le_of_ble_eq_true rfl) (Nat.le_of_ble_eq_true rfl) dX10_does_246
        · skip
          refine lv_iconst (v := 0) hx hb dX10_does_232 (by decide) ?_
          have hz229_3 := neq_of (a := Tt) (b := 0) (by omega) (by omega) c_103
          have hv224_2 := (inv_nat (n := Aa) (by omega) 0 3 (by decide +kernel) (by decide +kernel)).mp c_102
          have hK1 : gg / 10000 = 6 := by have q8 := (nI_eq (a := K) (b := 6) (by omega) (by decide)).mp c_98; omega
          have hC := cm6n (r := rt) hK1 hAa hTt (by omega)
          have hP : va_P D vwCl (fl [[ob (b 0) 9 [.int rf, .ref (b 1), .int tn, .int sp, .ref (b 2), .ref (b 3), .ref (b 4), .ref (b 5), .int ac, .ref (b 6), .ref (b 7), .ref (b 8), .ref (b 9), .ref (b 10), .ref (b 11)]], [ia ty (b 4) 57 (cmdR gg rt)], [la ty (b 9) 2 (tw (minsX (cmdN gg) rt xt) (minsY (cmdN gg) rt yt))]]) H := by rw [hC.2.1, hC.2.2]; exact hP
          have hD : va_D A (fl [[ob (b 0) 9 [.int rf, .ref (b 1), .int tn, .int sp, .ref (b 2), .ref (b 3), .ref (b 4), .ref (b 5), .int ac, .ref (b 6), .ref (b 7), .ref (b 8), .ref (b 9), .ref (b 10), .ref (b 11)]], [ia ty (b 4) 57 (cmdR gg rt)], [la ty (b 9) 2 (tw (minsX (cmdN gg) rt xt) (minsY (cmdN gg) rt yt))]]) := (D_same2 hD [(b 0), (b 4), (b 9)] rfl rfl)
          exact end_z (bs' := (fun (_ : Unit) => [[ob (b 0) 9 [.int rf, .ref (b 1), .int tn, .int sp, .ref (b 2), .ref (b 3), .ref (b 4), .ref (b 5), .int ac, .ref (b 6), .ref (b 7), .ref (b 8), .ref (b 9), .ref (b 10), .ref (b 11)]], [ia ty (b 4) 57 (cmdR gg rt)], [la ty (b 9) 2 (tw (minsX (cmdN gg) rt xt) (minsY (cmdN gg) rt yt))]])) () hx hb hr hlocks rfl hP hD hS hC.1.symm (Nat.le_of_ble_eq_true rfl) (Nat.le_of_ble_eq_true rfl) dX10_does_233
    rcases Classical.em ((nI K) = 7) with c_107 | c_107
    · refine lv_tableIn (tgt := 247) (off := 216) hx hb dX10_does_31 (by first | (rw [c_107]; done) | (rw [c_107]; decide)) (by first | (rw [c_107]; done) | (rw [c_107]; decide)) (by first | (rw [c_107]; done) | (rw [c_107]; rfl)) (by decide) ?_
      refine lv_aload_n hx hb dX10_does_247 rfl (lv_at hl 3 rfl) ?_
      refine va_get (D := D) (ci := 9) (v := .ref (b 4)) (C := RX10) (T := TX10) (N := 15) hx hb hts i_X10 hown hK hP 0 rfl rfl 6 (by decide) (hts (Cond.fieldLink RX10 19 "BrownClockModel" "trial" "[I") (List.mem_of_getElem? (i := 1) rfl)) (fun _ h9 => h9) rfl dX10_does_248 ?_
      refine cSi (As := [.ref (b 4)]) (rest := []) ⟨hx, hb, hml, hown, hts⟩ (c_X10_domainOf l D ty (b 4) rt) (va_cwS 1 hts gX10_does_X10_domainOf rfl rfl rfl (by decide +kernel) ⟨Nat.le_of_ble_eq_true rfl, Nat.le_of_ble_eq_true rfl⟩) hK hX hP hD hS hA (pk (bs := [[ob (b 0) 9 [.int rf, .ref (b 1), .int tn, .int sp, .ref (b 2), .ref (b 3), .ref (b 4), .ref (b 5), .int ac, .ref (b 6), .ref (b 7), .ref (b 8), .ref (b 9), .ref (b 10), .ref (b 11)]], [ia ty (b 4) 57 rt], [la ty (b 9) 2 (tw xt yt)]]) (bsc := [[ia ty (b 4) 57 rt]]) (bsr := [[ob (b 0) 9 [.int rf, .ref (b 1), .int tn, .int sp, .ref (b 2), .ref (b 3), .ref (b 4), .ref (b 5), .int ac, .ref (b 6), .ref (b 7), .ref (b 8), .ref (b 9), .ref (b 10), .ref (b 11)]], [la ty (b 9) 2 (tw xt yt)]]) [1] [0, 2] 3 rfl (by decide +kernel) rfl rfl) rfl hl.1 rfl (Nat.le_of_ble_eq_true rfl) dX10_does_251 ⟨Nat.le_of_ble_eq_true rfl, Nat.le_of_ble_eq_true rfl⟩ (fun r_109 u_108 h_110 H locs hP hD hS => ?_)
      have h_110 : r_109 = (pdom rt) := h_110
      subst h_110
      have hP : va_P D vwCl (fl [[ob (b 0) 9 [.int rf, .ref (b 1), .int tn, .int sp, .ref (b 2), .ref (b 3), .ref (b 4), .ref (b 5), .int ac, .ref (b 6), .ref (b 7), .ref (b 8), .ref (b 9), .ref (b 10), .ref (b 11)]], [ia ty (b 4) 57 rt], [la ty (b 9) 2 (tw xt yt)]]) H := P_perm (po (bs := [[ia ty (b 4) 57 rt], [ob (b 0) 9 [.int rf, .ref (b 1), .int tn, .int sp, .ref (b 2), .ref (b 3), .ref (b 4), .ref (b 5), .int ac, .ref (b 6), .ref (b 7), .ref (b 8), .ref (b 9), .ref (b 10), .ref (b 11)]], [la ty (b 9) 2 (tw xt yt)]]) [1, 0, 2] 3 rfl (by decide +kernel) rfl) hP
      have hD : va_D A (fl [[ob (b 0) 9 [.int rf, .ref (b 1), .int tn, .int sp, .ref (b 2), .ref (b 3), .ref (b 4), .ref (b 5), .int ac, .ref (b 6), .ref (b 7), .ref (b 8), .ref (b 9), .ref (b 10), .ref (b 11)]], [ia ty (b 4) 57 rt], [la ty (b 9) 2 (tw xt yt)]]) := D_perm (po (bs := [[ia ty (b 4) 57 rt], [ob (b 0) 9 [.int rf, .ref (b 1), .int tn, .int sp, .ref (b 2), .ref (b 3), .ref (b 4), .ref (b 5), .int ac, .ref (b 6), .ref (b 7), .ref (b 8), .ref (b 9), .ref (b 10), .ref (b 11)]], [la ty (b 9) 2 (tw xt yt)]]) [1, 0, 2] 3 rfl (by decide +kernel) rfl) hD
      refine lv_iload_n hx hb dX10_does_254 rfl (lv_at hl 5 rfl) ?_
      refine lv_icmp_ne (tgt := 262) hx hb dX10_does_255 (by decide) (fun c_111 => ?_) (fun c_111 => ?_)
      · skip
        refine lv_iconst (v := 0) hx hb dX10_does_262 (by decide) ?_
        have hK1 : gg / 10000 = 7 := by have q8 := (nI_eq (a := K) (b := 7) (by omega) (by decide)).mp c_107; omega
        have hC := cm7n (r := rt) hK1 hF c_111
        have hP : va_P D vwCl (fl [[ob (b 0) 9 [.int rf, .ref (b 1), .int tn, .int sp, .ref (b 2), .ref (b 3), .ref (b 4), .ref (b 5), .int ac, .ref (b 6), .ref (b 7), .ref (b 8), .ref (b 9), .ref (b 10), .ref (b 11)]], [ia ty (b 4) 57 (cmdR gg rt)], [la ty (b 9) 2 (tw (minsX (cmdN gg) rt xt) (minsY (cmdN gg) rt yt))]]) H := by rw [hC.2.1, hC.2.2]; exact hP
        have hD : va_D A (fl [[ob (b 0) 9 [.int rf, .ref (b 1), .int tn, .int sp, .ref (b 2), .ref (b 3), .ref (b 4), .ref (b 5), .int ac, .ref (b 6), .ref (b 7), .ref (b 8), .ref (b 9), .ref (b 10), .ref (b 11)]], [ia ty (b 4) 57 (cmdR gg rt)], [la ty (b 9) 2 (tw (minsX (cmdN gg) rt xt) (minsY (cmdN gg) rt yt))]]) := (D_same2 hD [(b 0), (b 4), (b 9)] rfl rfl)
        exact end_z (bs' := (fun (_ : Unit) => [[ob (b 0) 9 [.int rf, .ref (b 1), .int tn, .int sp, .ref (b 2), .ref (b 3), .ref (b 4), .ref (b 5), .int ac, .ref (b 6), .ref (b 7), .ref (b 8), .ref (b 9), .ref (b 10), .ref (b 11)]], [ia ty (b 4) 57 (cmdR gg rt)], [la ty (b 9) 2 (tw (minsX (cmdN gg) rt xt) (minsY (cmdN gg) rt yt))]])) () hx hb hr hlocks rfl hP hD hS hC.1.symm (Nat.le_of_ble_eq_true rfl) (Nat.le_of_ble_eq_true rfl) dX10_does_263
      · skip
        refine lv_iconst (v := 1) hx hb dX10_does_258 (by decide) ?_
        refine lv_goto (tgt := 263) hx hb dX10_does_259 (by decide) ?_
        have hK1 : gg / 10000 = 7 := by have q8 := (nI_eq (a := K) (b := 7) (by omega) (by decide)).mp c_107; omega
        have hC := cm7y (r := rt) hK1 hF c_111
        have hP : va_P D vwCl (fl [[ob (b 0) 9 [.int rf, .ref (b 1), .int tn, .int sp, .ref (b 2), .ref (b 3), .ref (b 4), .ref (b 5), .int ac, .ref (b 6), .ref (b 7), .ref (b 8), .ref (b 9), .ref (b 10), .ref (b 11)]], [ia ty (b 4) 57 (cmdR gg rt)], [la ty (b 9) 2 (tw (minsX (cmdN gg) rt xt) (minsY (cmdN gg) rt yt))]]) H := by rw [hC.2.1, hC.2.2]; exact hP
        have hD : va_D A (fl [[ob (b 0) 9 [.int rf, .ref (b 1), .int tn, .int sp, .ref (b 2), .ref (b 3), .ref (b 4), .ref (b 5), .int ac, .ref (b 6), .ref (b 7), .ref (b 8), .ref (b 9), .ref (b 10), .ref (b 11)]], [ia ty (b 4) 57 (cmdR gg rt)], [la ty (b 9) 2 (tw (minsX (cmdN gg) rt xt) (minsY (cmdN gg) rt yt))]]) := (D_same2 hD [(b 0), (b 4), (b 9)] rfl rfl)
        exact end_z (bs' := (fun (_ : Unit) => [[ob (b 0) 9 [.int rf, .ref (b 1), .int tn, .int sp, .ref (b 2), .ref (b 3), .ref (b 4), .ref (b 5), .int ac, .ref (b 6), .ref (b 7), .ref (b 8), .ref (b 9), .ref (b 10), .ref (b 11)]], [ia ty (b 4) 57 (cmdR gg rt)], [la ty (b 9) 2 (tw (minsX (cmdN gg) rt xt) (minsY (cmdN gg) rt yt))]])) () hx hb hr hlocks rfl hP hD hS hC.1.symm (Nat.le_of_ble_eq_true rfl) (Nat.le_of_ble_eq_true rfl) dX10_does_263
    rcases Classical.em ((nI K) = 8) with c_112 | c_112
    · refine lv_tableIn (tgt := 264) (off := 233) hx hb dX10_does_31 (by first | (rw [c_112]; done) | (rw [c_112]; decide)) (by first | (rw [c_112]; done) | (rw [c_112]; decide)) (by first | (rw [c_112]; done) | (rw [c_112]; rfl)) (by decide) ?_
      refine lv_iload_n hx hb dX10_does_264 rfl (lv_at hl 2 rfl) ?_
      refine cSi (As := [.int (nI Aa)]) (rest := []) ⟨hx, hb, hml, hown, hts⟩ (c_X10_isRegister l D ty (nI Aa)) (va_cwS 1 hts gX10_does_X10_isRegister rfl rfl rfl (by decide +kernel) ⟨Nat.le_of_ble_eq_true rfl, Nat.le_of_ble_eq_true rfl⟩) hK hX hP hD hS hA (pk (bs := [[ob (b 0) 9 [.int rf, .ref (b 1), .int tn, .int sp, .ref (b 2), .ref (b 3), .ref (b 4), .ref (b 5), .int ac, .ref (b 6), .ref (b 7), .ref (b 8), .ref (b 9), .ref (b 10), .ref (b 11)]], [ia ty (b 4) 57 rt], [la ty (b 9) 2 (tw xt yt)]]) (bsc := []) (bsr := [[ob (b 0) 9 [.int rf, .ref (b 1), .int tn, .int sp, .ref (b 2), .ref (b 3), .ref (b 4), .ref (b 5), .int ac, .ref (b 6), .ref (b 7), .ref (b 8), .ref (b 9), .ref (b 10), .ref (b 11)]], [ia ty (b 4) 57 rt], [la ty (b 9) 2 (tw xt yt)]]) [] [0, 1, 2] 3 rfl (by decide +kernel) rfl rfl) rfl hl.1 rfl (Nat.le_of_ble_eq_true rfl) dX10_does_265 ⟨Nat.le_of_ble_eq_true rfl, Nat.le_of_ble_eq_true rfl⟩ (fun r_114 u_113 h_115 H locs hP hD hS => ?_)
      have h_115 : r_114 = (inv (Int32.toInt64 (nI Aa)) 0 7) := h_115
      subst h_115
      have hP : va_P D vwCl (fl [[ob (b 0) 9 [.int rf, .ref (b 1), .int tn, .int sp, .ref (b 2), .ref (b 3), .ref (b 4), .ref (b 5), .int ac, .ref (b 6), .ref (b 7), .ref (b 8), .ref (b 9), .ref (b 10), .ref (b 11)]], [ia ty (b 4) 57 rt], [la ty (b 9) 2 (tw xt yt)]]) H := P_perm (po (bs := [[ob (b 0) 9 [.int rf, .ref (b 1), .int tn, .int sp, .ref (b 2), .ref (b 3), .ref (b 4), .ref (b 5), .int ac, .ref (b 6), .ref (b 7), .ref (b 8), .ref (b 9), .ref (b 10), .ref (b 11)]], [ia ty (b 4) 57 rt], [la ty (b 9) 2 (tw xt yt)]]) [0, 1, 2] 3 rfl (by decide +kernel) rfl) hP
      have hD : va_D A (fl [[ob (b 0) 9 [.int rf, .ref (b 1), .int tn, .int sp, .ref (b 2), .ref (b 3), .ref (b 4), .ref (b 5), .int ac, .ref (b 6), .ref (b 7), .ref (b 8), .ref (b 9), .ref (b 10), .ref (b 11)]], [ia ty (b 4) 57 rt], [la ty (b 9) 2 (tw xt yt)]]) := D_perm (po (bs := [[ob (b 0) 9 [.int rf, .ref (b 1), .int tn, .int sp, .ref (b 2), .ref (b 3), .ref (b 4), .ref (b 5), .int ac, .ref (b 6), .ref (b 7), .ref (b 8), .ref (b 9), .ref (b 10), .ref (b 11)]], [ia ty (b 4) 57 rt], [la ty (b 9) 2 (tw xt yt)]]) [0, 1, 2] 3 rfl (by decide +kernel) rfl) hD
      refine lv_if_eq (tgt := 289) hx hb dX10_does_268 (by decide) (fun c_116 => ?_) (fun c_116 => ?_)
      · skip
        refine lv_iconst (v := 0) hx hb dX10_does_289 (by decide) ?_
        have hv268_2 := inv_natn (n := Aa) (by omega) 0 7 (by decide +kernel) (by decide +kernel) c_116
        have hK1 : gg / 10000 = 8 := by have q8 := (nI_eq (a := K) (b := 8) (by omega) (by decide)).mp c_112; omega
        have hC := cm8n (r := rt) hK1 hAa hTt (fun q => absurd q.1 (by omega))
        have hP : va_P D vwCl (fl [[ob (b 0) 9 [.int rf, .ref (b 1), .int tn, .int sp, .ref (b 2), .ref (b 3), .ref (b 4), .ref (b 5), .int ac, .ref (b 6), .ref (b 7), .ref (b 8), .ref (b 9), .ref (b 10), .ref (b 11)]], [ia ty (b 4) 57 (cmdR gg rt)], [la ty (b 9) 2 (tw (minsX (cmdN gg) rt xt) (minsY (cmdN gg) rt yt))]]) H := by rw [hC.2.1, hC.2.2]; exact hP
        have hD : va_D A (fl [[ob (b 0) 9 [.int rf, .ref (b 1), .int tn, .int sp, .ref (b 2), .ref (b 3), .ref (b 4), .ref (b 5), .int ac, .ref (b 6), .ref (b 7), .ref (b 8), .ref (b 9), .ref (b 10), .ref (b 11)]], [ia ty (b 4) 57 (cmdR gg rt)], [la ty (b 9) 2 (tw (minsX (cmdN gg) rt xt) (minsY (cmdN gg) rt yt))]]) := (D_same2 hD [(b 0), (b 4), (b 9)] rfl rfl)
        exact end_z (bs' := (fun (_ : Unit) => [[ob (b 0) 9 [.int rf, .ref (b 1), .int tn, .int sp, .ref (b 2), .ref (b 3), .ref (b 4), .ref (b 5), .int ac, .ref (b 6), .ref (b 7), .ref (b 8), .ref (b 9), .ref (b 10), .ref (b 11)]], [ia ty (b 4) 57 (cmdR gg rt)], [la ty (b 9) 2 (tw (minsX (cmdN gg) rt xt) (minsY (cmdN gg) rt yt))]])) () hx hb hr hlocks rfl hP hD hS hC.1.symm (Nat.le_of_ble_eq_true rfl) (Nat.le_of_ble_eq_true rfl) dX10_does_290
      · skip
        have hv268_2 := (inv_nat (n := Aa) (by omega) 0 7 (by decide +kernel) (by decide +kernel)).mp c_116
        refine lv_aload_n hx hb dX10_does_271 rfl (lv_at hl 3 rfl) ?_
        refine va_get (D := D) (ci := 9) (v := .ref (b 4)) (C := RX10) (T := TX10) (N := 15) hx hb hts i_X10 hown hK hP 0 rfl rfl 6 (by decide) (hts (Cond.fieldLink RX10 19 "BrownClockModel" "trial" "[I") (List.mem_of_getElem? (i := 1) rfl)) (fun _ h9 => h9) rfl dX10_does_272 ?_
        refine lv_bipush (v := 16) hx hb dX10_does_275 (by decide) ?_
        refine lv_iload_n hx hb dX10_does_277 rfl (lv_at hl 2 rfl) ?_
        refine k_iadd (v := (nI (16 + Aa))) hx hb dX10_does_278 (nI_add (16) (Aa)) ?_
        refine k_iald hx hb hK hP 1 rfl (16 + Aa) rfl (by omega) (Nat.le_of_ble_eq_true rfl) (v := rt (16 + Aa)) rfl dX10_does_279 ?_
        refine lv_iload hx hb dX10_does_280 (lv_at hl 1 rfl) ?_
        refine lv_icmp_ne (tgt := 289) hx hb dX10_does_282 (by decide) (fun c_117 => ?_) (fun c_117 => ?_)
        · skip
          refine lv_iconst (v := 0) hx hb dX10_does_289 (by decide) ?_
          have hv268_2 := (inv_nat (n := Aa) (by omega) 0 7 (by decide +kernel) (by decide +kernel)).mp c_116
          have hK1 : gg / 10000 = 8 := by have q8 := (nI_eq (a := K) (b := 8) (by omega) (by decide)).mp c_112; omega
          have hC := cm8n (r := rt) hK1 hAa hTt (fun q => absurd q.2 c_117)
          have hP : va_P D vwCl (fl [[ob (b 0) 9 [.int rf, .ref (b 1), .int tn, .int sp, .ref (b 2), .ref (b 3), .ref (b 4), .ref (b 5), .int ac, .ref (b 6), .ref (b 7), .ref (b 8), .ref (b 9), .ref (b 10), .ref (b 11)]], [ia ty (b 4) 57 (cmdR gg rt)], [la ty (b 9) 2 (tw (minsX (cmdN gg) rt xt) (minsY (cmdN gg) rt yt))]]) H := by rw [hC.2.1, hC.2.2]; exact hP
          have hD : va_D A (fl [[ob (b 0) 9 [.int rf, .ref (b 1), .int tn, .int sp, .ref (b 2), .ref (b 3), .ref (b 4), .ref (b 5), .int ac, .ref (b 6), .ref (b 7), .ref (b 8), .ref (b 9), .ref (b 10), .ref (b 11)]], [ia ty (b 4) 57 (cmdR gg rt)], [la ty (b 9) 2 (tw (minsX (cmdN gg) rt xt) (minsY (cmdN gg) rt yt))]]) := (D_same2 hD [(b 0), (b 4), (b 9)] rfl rfl)
          exact end_z (bs' := (fun (_ : Unit) => [[ob (b 0) 9 [.int rf, .ref (b 1), .int tn, .int sp, .ref (b 2), .ref (b 3), .ref (b 4), .ref (b 5), .int ac, .ref (b 6), .ref (b 7), .ref (b 8), .ref (b 9), .ref (b 10), .ref (b 11)]], [ia ty (b 4) 57 (cmdR gg rt)], [la ty (b 9) 2 (tw (minsX (cmdN gg) rt xt) (minsY (cmdN gg) rt yt))]])) () hx hb hr hlocks rfl hP hD hS hC.1.symm (Nat.le_of_ble_eq_true rfl) (Nat.le_of_ble_eq_true rfl) dX10_does_290
        · skip
          refine lv_iconst (v := 1) hx hb dX10_does_285 (by decide) ?_
          refine lv_goto (tgt := 290) hx hb dX10_does_286 (by decide) ?_
          have hv268_2 := (inv_nat (n := Aa) (by omega) 0 7 (by decide +kernel) (by decide +kernel)).mp c_116
          have hK1 : gg / 10000 = 8 := by have q8 := (nI_eq (a := K) (b := 8) (by omega) (by decide)).mp c_112; omega
          have hC := cm8y (r := rt) hK1 hAa hTt ⟨by omega, c_117⟩
          have hP : va_P D vwCl (fl [[ob (b 0) 9 [.int rf, .ref (b 1), .int tn, .int sp, .ref (b 2), .ref (b 3), .ref (b 4), .ref (b 5), .int ac, .ref (b 6), .ref (b 7), .ref (b 8), .ref (b 9), .ref (b 10), .ref (b 11)]], [ia ty (b 4) 57 (cmdR gg rt)], [la ty (b 9) 2 (tw (minsX (cmdN gg) rt xt) (minsY (cmdN gg) rt yt))]]) H := by rw [hC.2.1, hC.2.2]; exact hP
          have hD : va_D A (fl [[ob (b 0) 9 [.int rf, .ref (b 1), .int tn, .int sp, .ref (b 2), .ref (b 3), .ref (b 4), .ref (b 5), .int ac, .ref (b 6), .ref (b 7), .ref (b 8), .ref (b 9), .ref (b 10), .ref (b 11)]], [ia ty (b 4) 57 (cmdR gg rt)], [la ty (b 9) 2 (tw (minsX (cmdN gg) rt xt) (minsY (cmdN gg) rt yt))]]) := (D_same2 hD [(b 0), (b 4), (b 9)] rfl rfl)
          exact end_z (bs' := (fun (_ : Unit) => [[ob (b 0) 9 [.int rf, .ref (b 1), .int tn, .int sp, .ref (b 2), .ref (b 3), .ref (b 4), .ref (b 5), .int ac, .ref (b 6), .ref (b 7), .ref (b 8), .ref (b 9), .ref (b 10), .ref (b 11)]], [ia ty (b 4) 57 (cmdR gg rt)], [la ty (b 9) 2 (tw (minsX (cmdN gg) rt xt) (minsY (cmdN gg) rt yt))]])) () hx hb hr hlocks rfl hP hD hS hC.1.symm (Nat.le_of_ble_eq_true rfl) (Nat.le_of_ble_eq_true rfl) dX10_does_290
    rcases Classical.em ((nI K) = 9) with c_118 | c_118
    · refine lv_tableIn (tgt := 291) (off := 260) hx hb dX10_does_31 (by first | (rw [c_118]; done) | (rw [c_118]; decide)) (by first | (rw [c_118]; done) | (rw [c_118]; decide)) (by first | (rw [c_118]; done) | (rw [c_118]; rfl)) (by decide) ?_
      refine lv_iload_n hx hb dX10_does_291 rfl (lv_at hl 2 rfl) ?_
      refine lv_iconst (v := 2) hx hb dX10_does_292 (by decide) ?_
      refine lv_icmp_ge (tgt := 322) hx hb dX10_does_293 (by decide) (fun c_119 => ?_) (fun c_119 => ?_)
      · skip
        refine lv_iconst (v := 0) hx hb dX10_does_322 (by decide) ?_
        have hz293_2 := (nI_leI (a := 2) (b := Aa) (by omega) (by omega)).mp c_119
        have hK1 : gg / 10000 = 9 := by have q8 := (nI_eq (a := K) (b := 9) (by omega) (by decide)).mp c_118; omega
        have hC := cm9n (r := rt) hK1 hAa hTt (fun q => absurd q.1 (by omega))
        have hP : va_P D vwCl (fl [[ob (b 0) 9 [.int rf, .ref (b 1), .int tn, .int sp, .ref (b 2), .ref (b 3), .ref (b 4), .ref (b 5), .int ac, .ref (b 6), .ref (b 7), .ref (b 8), .ref (b 9), .ref (b 10), .ref (b 11)]], [ia ty (b 4) 57 (cmdR gg rt)], [la ty (b 9) 2 (tw (minsX (cmdN gg) rt xt) (minsY (cmdN gg) rt yt))]]) H := by rw [hC.2.1, hC.2.2]; exact hP
        have hD : va_D A (fl [[ob (b 0) 9 [.int rf, .ref (b 1), .int tn, .int sp, .ref (b 2), .ref (b 3), .ref (b 4), .ref (b 5), .int ac, .ref (b 6), .ref (b 7), .ref (b 8), .ref (b 9), .ref (b 10), .ref (b 11)]], [ia ty (b 4) 57 (cmdR gg rt)], [la ty (b 9) 2 (tw (minsX (cmdN gg) rt xt) (minsY (cmdN gg) rt yt))]]) := (D_same2 hD [(b 0), (b 4), (b 9)] rfl rfl)
        exact end_z (bs' := (fun (_ : Unit) => [[ob (b 0) 9 [.int rf, .ref (b 1), .int tn, .int sp, .ref (b 2), .ref (b 3), .ref (b 4), .ref (b 5), .int ac, .ref (b 6), .ref (b 7), .ref (b 8), .ref (b 9), .ref (b 10), .ref (b 11)]], [ia ty (b 4) 57 (cmdR gg rt)], [la ty (b 9) 2 (tw (minsX (cmdN gg) rt xt) (minsY (cmdN gg) rt yt))]])) () hx hb hr hlocks rfl hP hD hS hC.1.symm (Nat.le_of_ble_eq_true rfl) (Nat.le_of_ble_eq_true rfl) dX10_does_323
      · skip
        refine lv_aload_n hx hb dX10_does_296 rfl (lv_at hl 3 rfl) ?_
        refine va_get (D := D) (ci := 9) (v := .ref (b 4)) (C := RX10) (T := TX10) (N := 15) hx hb hts i_X10 hown hK hP 0 rfl rfl 6 (by decide) (hts (Cond.fieldLink RX10 19 "BrownClockModel" "trial" "[I") (List.mem_of_getElem? (i := 1) rfl)) (fun _ h9 => h9) rfl dX10_does_297 ?_
        refine cSi (As := [.ref (b 4)]) (rest := []) ⟨hx, hb, hml, hown, hts⟩ (c_X10_offsetOf l D ty (b 4) rt) (va_cwS 1 hts gX10_does_X10_offsetOf rfl rfl rfl (by decide +kernel) ⟨Nat.le_of_ble_eq_true rfl, Nat.le_of_ble_eq_true rfl⟩) hK hX hP hD hS hA (pk (bs := [[ob (b 0) 9 [.int rf, .ref (b 1), .int tn, .int sp, .ref (b 2), .ref (b 3), .ref (b 4), .ref (b 5), .int ac, .ref (b 6), .ref (b 7), .ref (b 8), .ref (b 9), .ref (b 10), .ref (b 11)]], [ia ty (b 4) 57 rt], [la ty (b 9) 2 (tw xt yt)]]) (bsc := [[ia ty (b 4) 57 rt]]) (bsr := [[ob (b 0) 9 [.int rf, .ref (b 1), .int tn, .int sp, .ref (b 2), .ref (b 3), .ref (b 4), .ref (b 5), .int ac, .ref (b 6), .ref (b 7), .ref (b 8), .ref (b 9), .ref (b 10), .ref (b 11)]], [la ty (b 9) 2 (tw xt yt)]]) [1] [0, 2] 3 rfl (by decide +kernel) rfl rfl) rfl hl.1 rfl (Nat.le_of_ble_eq_true rfl) dX10_does_300 ⟨Nat.le_of_ble_eq_true rfl, Nat.le_of_ble_eq_true rfl⟩ (fun r_121 u_120 h_122 H locs hP hD hS => ?_)
        have h_122 : r_121 = (poff rt) := h_122
        subst h_122
        have hP : va_P D vwCl (fl [[ob (b 0) 9 [.int rf, .ref (b 1), .int tn, .int sp, .ref (b 2), .ref (b 3), .ref (b 4), .ref (b 5), .int ac, .ref (b 6), .ref (b 7), .ref (b 8), .ref (b 9), .ref (b 10), .ref (b 11)]], [ia ty (b 4) 57 rt], [la ty (b 9) 2 (tw xt yt)]]) H := P_perm (po (bs := [[ia ty (b 4) 57 rt], [ob (b 0) 9 [.int rf, .ref (b 1), .int tn, .int sp, .ref (b 2), .ref (b 3), .ref (b 4), .ref (b 5), .int ac, .ref (b 6), .ref (b 7), .ref (b 8), .ref (b 9), .ref (b 10), .ref (b 11)]], [la ty (b 9) 2 (tw xt yt)]]) [1, 0, 2] 3 rfl (by decide +kernel) rfl) hP
        have hD : va_D A (fl [[ob (b 0) 9 [.int rf, .ref (b 1), .int tn, .int sp, .ref (b 2), .ref (b 3), .ref (b 4), .ref (b 5), .int ac, .ref (b 6), .ref (b 7), .ref (b 8), .ref (b 9), .ref (b 10), .ref (b 11)]], [ia ty (b 4) 57 rt], [la ty (b 9) 2 (tw xt yt)]]) := D_perm (po (bs := [[ia ty (b 4) 57 rt], [ob (b 0) 9 [.int rf, .ref (b 1), .int tn, .int sp, .ref (b 2), .ref (b 3), .ref (b 4), .ref (b 5), .int ac, .ref (b 6), .ref (b 7), .ref (b 8), .ref (b 9), .ref (b 10), .ref (b 11)]], [la ty (b 9) 2 (tw xt yt)]]) [1, 0, 2] 3 rfl (by decide +kernel) rfl) hD
        refine lv_iload_n hx hb dX10_does_303 rfl (lv_at hl 2 rfl) ?_
        refine lv_if_ne (tgt := 312) hx hb dX10_does_304 (by decide) (fun c_123 => ?_) (fun c_123 => ?_)
        · skip
          refine lv_iload hx hb dX10_does_312 (lv_at hl 1 rfl) ?_
          refine k_ineg (v := (-(nI Tt))) hx hb dX10_does_314 rfl ?_
          refine lv_icmp_gt (tgt := 322) hx hb dX10_does_315 (by decide) (fun c_124 => ?_) (fun c_124 => ?_)
          · skip
            refine lv_iconst (v := 0) hx hb dX10_does_322 (by decide) ?_
            have hz293_2 := nle_of (a := 2) (b := Aa) (by omega) (by omega) c_119
            have hz304_3 := neq_of (a := Aa) (b := 0) (by omega) (by omega) c_123
            have hK1 : gg / 10000 = 9 := by have q8 := (nI_eq (a := K) (b := 9) (by omega) (by decide)).mp c_118; omega
            have hsg := sgnv_1 (a := Aa) (b := Tt) (by omega)
            have hC := cm9n (r := rt) hK1 hAa hTt (fun q => by have q2 := q.2; rw [hsg] at q2; exact absurd c_124 (Int32.not_lt.mpr q2))
            have hP : va_P D vwCl (fl [[ob (b 0) 9 [.int rf, .ref (b 1), .int tn, .int sp, .ref (b 2), .ref (b 3), .ref (b 4), .ref (b 5), .int ac, .ref (b 6), .ref (b 7), .ref (b 8), .ref (b 9), .ref (b 10), .ref (b 11)]], [ia ty (b 4) 57 (cmdR gg rt)], [la ty (b 9) 2 (tw (minsX (cmdN gg) rt xt) (minsY (cmdN gg) rt yt))]]) H := by rw [hC.2.1, hC.2.2]; exact hP
            have hD : va_D A (fl [[ob (b 0) 9 [.int rf, .ref (b 1), .int tn, .int sp, .ref (b 2), .ref (b 3), .ref (b 4), .ref (b 5), .int ac, .ref (b 6), .ref (b 7), .ref (b 8), .ref (b 9), .ref (b 10), .ref (b 11)]], [ia ty (b 4) 57 (cmdR gg rt)], [la ty (b 9) 2 (tw (minsX (cmdN gg) rt xt) (minsY (cmdN gg) rt yt))]]) := (D_same2 hD [(b 0), (b 4), (b 9)] rfl rfl)
            exact end_z (bs' := (fun (_ : Unit) => [[ob (b 0) 9 [.int rf, .ref (b 1), .int tn, .int sp, .ref (b 2), .ref (b 3), .ref (b 4), .ref (b 5), .int ac, .ref (b 6), .ref (b 7), .ref (b 8), .ref (b 9), .ref (b 10), .ref (b 11)]], [ia ty (b 4) 57 (cmdR gg rt)], [la ty (b 9) 2 (tw (minsX (cmdN gg) rt xt) (minsY (cmdN gg) rt yt))]])) () hx hb hr hlocks rfl hP hD hS hC.1.symm (Nat.le_of_ble_eq_true rfl) (Nat.le_of_ble_eq_true rfl) dX10_does_323
          · skip
            refine lv_iconst (v := 1) hx hb dX10_does_318 (by decide) ?_
            refine lv_goto (tgt := 323) hx hb dX10_does_319 (by decide) ?_
            have hz293_2 := nle_of (a := 2) (b := Aa) (by omega) (by omega) c_119
            have hz304_3 := neq_of (a := Aa) (b := 0) (by omega) (by omega) c_123
            have hK1 : gg / 10000 = 9 := by have q8 := (nI_eq (a := K) (b := 9) (by omega) (by decide)).mp c_118; omega
            have hsg := sgnv_1 (a := Aa) (b := Tt) (by omega)
            have hC := cm9y (r := rt) hK1 hAa hTt ⟨by omega, by rw [hsg]; exact Int32.not_lt.mp c_124⟩
            have hP : va_P D vwCl (fl [[ob (b 0) 9 [.int rf, .ref (b 1), .int tn, .int sp, .ref (b 2), .ref (b 3), .ref (b 4), .ref (b 5), .int ac, .ref (b 6), .ref (b 7), .ref (b 8), .ref (b 9), .ref (b 10), .ref (b 11)]], [ia ty (b 4) 57 (cmdR gg rt)], [la ty (b 9) 2 (tw (minsX (cmdN gg) rt xt) (minsY (cmdN gg) rt yt))]]) H := by rw [hC.2.1, hC.2.2]; exact hP
            have hD : va_D A (fl [[ob (b 0) 9 [.int rf, .ref (b 1), .int tn, .int sp, .ref (b 2), .ref (b 3), .ref (b 4), .ref (b 5), .int ac, .ref (b 6), .ref (b 7), .ref (b 8), .ref (b 9), .ref (b 10), .ref (b 11)]], [ia ty (b 4) 57 (cmdR gg rt)], [la ty (b 9) 2 (tw (minsX (cmdN gg) rt xt) (minsY (cmdN gg) rt yt))]]) := (D_same2 hD [(b 0), (b 4), (b 9)] rfl rfl)
            exact end_z (bs' := (fun (_ : Unit) => [[ob (b 0) 9 [.int rf, .ref (b 1), .int tn, .int sp, .ref (b 2), .ref (b 3), .ref (b 4), .ref (b 5), .int ac, .ref (b 6), .ref (b 7), .ref (b 8), .ref (b 9), .ref (b 10), .ref (b 11)]], [ia ty (b 4) 57 (cmdR gg rt)], [la ty (b 9) 2 (tw (minsX (cmdN gg) rt xt) (minsY (cmdN gg) rt yt))]])) () hx hb hr hlocks rfl hP hD hS hC.1.symm (Nat.le_of_ble_eq_true rfl) (Nat.le_of_ble_eq_true rfl) dX10_does_323
        · skip
          refine lv_iload hx hb dX10_does_307 (lv_at hl 1 rfl) ?_
          refine lv_goto (tgt := 315) hx hb dX10_does_309 (by decide) ?_
          refine lv_icmp_gt (tgt := 322) hx hb dX10_does_315 (by decide) (fun c_125 => ?_) (fun c_125 => ?_)
          · skip
            refine lv_iconst (v := 0) hx hb dX10_does_322 (by decide) ?_
            have hz293_2 := nle_of (a := 2) (b := Aa) (by omega) (by omega) c_119
            have hz304_3 := (nI_eq (a := Aa) (b := 0) (by omega) (by omega)).mp c_123
            have hK1 : gg / 10000 = 9 := by have q8 := (nI_eq (a := K) (b := 9) (by omega) (by decide)).mp c_118; omega
            have hsg := sgnv_0 (a := Aa) (b := Tt) (by omega)
            have hC := cm9n (r := rt) hK1 hAa hTt (fun q => by have q2 := q.2; rw [hsg] at q2; exact absurd c_125 (Int32.not_lt.mpr q2))
            have hP : va_P D vwCl (fl [[ob (b 0) 9 [.int rf, .ref (b 1), .int tn, .int sp, .ref (b 2), .ref (b 3), .ref (b 4), .ref (b 5), .int ac, .ref (b 6), .ref (b 7), .ref (b 8), .ref (b 9), .ref (b 10), .ref (b 11)]], [ia ty (b 4) 57 (cmdR gg rt)], [la ty (b 9) 2 (tw (minsX (cmdN gg) rt xt) (minsY (cmdN gg) rt yt))]]) H := by rw [hC.2.1, hC.2.2]; exact hP
            have hD : va_D A (fl [[ob (b 0) 9 [.int rf, .ref (b 1), .int tn, .int sp, .ref (b 2), .ref (b 3), .ref (b 4), .ref (b 5), .int ac, .ref (b 6), .ref (b 7), .ref (b 8), .ref (b 9), .ref (b 10), .ref (b 11)]], [ia ty (b 4) 57 (cmdR gg rt)], [la ty (b 9) 2 (tw (minsX (cmdN gg) rt xt) (minsY (cmdN gg) rt yt))]]) := (D_same2 hD [(b 0), (b 4), (b 9)] rfl rfl)
            exact end_z (bs' := (fun (_ : Unit) => [[ob (b 0) 9 [.int rf, .ref (b 1), .int tn, .int sp, .ref (b 2), .ref (b 3), .ref (b 4), .ref (b 5), .int ac, .ref (b 6), .ref (b 7), .ref (b 8), .ref (b 9), .ref (b 10), .ref (b 11)]], [ia ty (b 4) 57 (cmdR gg rt)], [la ty (b 9) 2 (tw (minsX (cmdN gg) rt xt) (minsY (cmdN gg) rt yt))]])) () hx hb hr hlocks rfl hP hD hS hC.1.symm (Nat.le_of_ble_eq_true rfl) (Nat.le_of_ble_eq_true rfl) dX10_does_323
          · skip
            refine lv_iconst (v := 1) hx hb dX10_does_318 (by decide) ?_
            refine lv_goto (tgt := 323) hx hb dX10_does_319 (by decide) ?_
            have hz293_2 := nle_of (a := 2) (b := Aa) (by omega) (by omega) c_119
            have hz304_3 := (nI_eq (a := Aa) (b := 0) (by omega) (by omega)).mp c_123
            have hK1 : gg / 10000 = 9 := by have q8 := (nI_eq (a := K) (b := 9) (by omega) (by decide)).mp c_118; omega
            have hsg := sgnv_0 (a := Aa) (b := Tt) (by omega)
            have hC := cm9y (r := rt) hK1 hAa hTt ⟨by omega, by rw [hsg]; exact Int32.not_lt.mp c_125⟩
            have hP : va_P D vwCl (fl [[ob (b 0) 9 [.int rf, .ref (b 1), .int tn, .int sp, .ref (b 2), .ref (b 3), .ref (b 4), .ref (b 5), .int ac, .ref (b 6), .ref (b 7), .ref (b 8), .ref (b 9), .ref (b 10), .ref (b 11)]], [ia ty (b 4) 57 (cmdR gg rt)], [la ty (b 9) 2 (tw (minsX (cmdN gg) rt xt) (minsY (cmdN gg) rt yt))]]) H := by rw [hC.2.1, hC.2.2]; exact hP
            have hD : va_D A (fl [[ob (b 0) 9 [.int rf, .ref (b 1), .int tn, .int sp, .ref (b 2), .ref (b 3), .ref (b 4), .ref (b 5), .int ac, .ref (b 6), .ref (b 7), .ref (b 8), .ref (b 9), .ref (b 10), .ref (b 11)]], [ia ty (b 4) 57 (cmdR gg rt)], [la ty (b 9) 2 (tw (minsX (cmdN gg) rt xt) (minsY (cmdN gg) rt yt))]]) := (D_same2 hD [(b 0), (b 4), (b 9)] rfl rfl)
            exact end_z (bs' := (fun (_ : Unit) => [[ob (b 0) 9 [.int rf, .ref (b 1), .int tn, .int sp, .ref (b 2), .ref (b 3), .ref (b 4), .ref (b 5), .int ac, .ref (b 6), .ref (b 7), .ref (b 8), .ref (b 9), .ref (b 10), .ref (b 11)]], [ia ty (b 4) 57 (cmdR gg rt)], [la ty (b 9) 2 (tw (minsX (cmdN gg) rt xt) (minsY (cmdN gg) rt yt))]])) () hx hb hr hlocks rfl hP hD hS hC.1.symm (Nat.le_of_ble_eq_true rfl) (Nat.le_of_ble_eq_true rfl) dX10_does_323
    refine lv_tableOut (tgt := 324) hx hb dX10_does_31 (by have h0 := lv_neT c_65 (show (1 : Int32).toInt = 1 from rfl); have h1 := lv_neT c_73 (show (2 : Int32).toInt = 2 from rfl); have h2 := lv_neT c_78 (show (3 : Int32).toInt = 3 from rfl); have h3 := lv_neT c_83 (show (4 : Int32).toInt = 4 from rfl); have h4 := lv_neT c_90 (show (5 : Int32).toInt = 5 from rfl); have h5 := lv_neT c_98 (show (6 : Int32).toInt = 6 from rfl); have h6 := lv_neT c_107 (show (7 : Int32).toInt = 7 from rfl); have h7 := lv_neT c_112 (show (8 : Int32).toInt = 8 from rfl); have h8 := lv_neT c_118 (show (9 : Int32).toInt = 9 from rfl); omega) (by decide) ?_
    refine lv_iconst (v := 0) hx hb dX10_does_324 (by decide) ?_
    have hk1 := neq_of (a := K) (b := 1) (by omega) (by decide) c_65
    have hk2 := neq_of (a := K) (b := 2) (by omega) (by decide) c_73
    have hk3 := neq_of (a := K) (b := 3) (by omega) (by decide) c_78
    have hk4 := neq_of (a := K) (b := 4) (by omega) (by decide) c_83
    have hk5 := neq_of (a := K) (b := 5) (by omega) (by decide) c_90
    have hk6 := neq_of (a := K) (b := 6) (by omega) (by decide) c_98
    have hk7 := neq_of (a := K) (b := 7) (by omega) (by decide) c_107
    have hk8 := neq_of (a := K) (b := 8) (by omega) (by decide) c_112
    have hk9 := neq_of (a := K) (b := 9) (by omega) (by decide) c_118
    have hC := cmd0 (r := rt) (gg := gg) (by omega)
    have hP : va_P D vwCl (fl [[ob (b 0) 9 [.int rf, .ref (b 1), .int tn, .int sp, .ref (b 2), .ref (b 3), .ref (b 4), .ref (b 5), .int ac, .ref (b 6), .ref (b 7), .ref (b 8), .ref (b 9), .ref (b 10), .ref (b 11)]], [ia ty (b 4) 57 (cmdR gg rt)], [la ty (b 9) 2 (tw (minsX (cmdN gg) rt xt) (minsY (cmdN gg) rt yt))]]) H := by rw [hC.2.1, hC.2.2]; exact hP
    have hD : va_D A (fl [[ob (b 0) 9 [.int rf, .ref (b 1), .int tn, .int sp, .ref (b 2), .ref (b 3), .ref (b 4), .ref (b 5), .int ac, .ref (b 6), .ref (b 7), .ref (b 8), .ref (b 9), .ref (b 10), .ref (b 11)]], [ia ty (b 4) 57 (cmdR gg rt)], [la ty (b 9) 2 (tw (minsX (cmdN gg) rt xt) (minsY (cmdN gg) rt yt))]]) := (D_same2 hD [(b 0), (b 4), (b 9)] rfl rfl)
    exact end_z (bs' := (fun (_ : Unit) => [[ob (b 0) 9 [.int rf, .ref (b 1), .int tn, .int sp, .ref (b 2), .ref (b 3), .ref (b 4), .ref (b 5), .int ac, .ref (b 6), .ref (b 7), .ref (b 8), .ref (b 9), .ref (b 10), .ref (b 11)]], [ia ty (b 4) 57 (cmdR gg rt)], [la ty (b 9) 2 (tw (minsX (cmdN gg) rt xt) (minsY (cmdN gg) rt yt))]])) () hx hb hr hlocks rfl hP hD hS hC.1.symm (Nat.le_of_ble_eq_true rfl) (Nat.le_of_ble_eq_true rfl) dX10_does_325
