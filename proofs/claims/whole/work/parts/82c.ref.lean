set_option maxHeartbeats 4000000 in
set_option maxRecDepth 100000 in
theorem c_X10_save (l : Launch) (D : va_G) (ty : Nat → ClassId) (b : Nat → Nat) (rf tn sp ac : Int32) (r : Nat → Int32) (x y : Int64) (kk kf : Nat → Int32) (ks : Nat → Int64) (i9 : Int32) (hc0 : inI i9 2) : CTi l yX10_save wsX10_save ({ frames := 1, cells := 0, slots := 0, locals := 25 }) D ty [.ref (b 0), .int i9] [[ob (b 0) 9 [.int rf, .ref (b 1), .int tn, .int sp, .ref (b 2), .ref (b 3), .ref (b 4), .ref (b 5), .int ac, .ref (b 6), .ref (b 7), .ref (b 8), .ref (b 9), .ref (b 10), .ref (b 11)]], [ia ty (b 3) 57 r], [la ty (b 8) 2 (tw x y)], [ia ty (b 6) 114 kk], [za ty (b 7) 2 kf], [la ty (b 11) 4 ks]] (fun (RET : Int32) (_ : Unit) => RET = (r 0)) (fun (_ : Unit) => [[ob (b 0) 9 [.int 0, .ref (b 1), .int tn, .int sp, .ref (b 2), .ref (b 3), .ref (b 4), .ref (b 5), .int ac, .ref (b 6), .ref (b 7), .ref (b 8), .ref (b 9), .ref (b 10), .ref (b 11)]], [ia ty (b 3) 57 r], [la ty (b 8) 2 (tw x y)], [ia ty (b 6) 114 (va_cpy r kk 0 (57 * i9.toNatClampNeg) 57)], [za ty (b 7) 2 (upd kf i9.toNatClampNeg 1)], [la ty (b 11) 4 (vp_updL (vp_updL ks (2 * i9.toNatClampNeg) x) (2 * i9.toNatClampNeg + 1) y)]]) := by
  refine CTi_of cX10_save 2 (some .int) (by decide) rfl (Nat.le_of_ble_eq_true rfl) ?_
  intro p e s m args below meth c A hx hb hr hml hown hlocks hin hts hA hX hK hP hD ls hl
  have hown : s.vm.findClass RX10 = some m.cls := hown
  have hS : va_S A s.heap s.heap [] := va_S.rf
  have i_X10 : ∀ z ∈ wsX100, z ∈ wsX10_save := fun z h => List.mem_cons_of_mem _ (List.mem_append_right _ h)
  have hl : lv_has ls 2 [(0, .ref (b 0)), (1, .int i9)] := hl
  refine lv_aload_n hx hb dX10_save_0 rfl (lv_at hl 0 rfl) ?_
  refine lv_iload_n hx hb dX10_save_1 rfl (lv_at hl 1 rfl) ?_
  refine lv_i2l (v := (Int32.toInt64 i9)) hx hb dX10_save_2 rfl ?_
  refine lv_lconst (v := 0) hx hb dX10_save_3 (by decide) ?_
  refine lv_lconst (v := 1) hx hb dX10_save_4 (by decide) ?_
  refine cSi (As := [.long (Int32.toInt64 i9), .long 0, .long 1]) (rest := [.ref (b 0)]) ⟨hx, hb, hml, hown, hts⟩ (c_X10_in l D ty (Int32.toInt64 i9) 0 1) (va_cwS 3 hts gX10_save_X10_in rfl rfl rfl (by decide +kernel) ⟨Nat.le_of_ble_eq_true rfl, Nat.le_of_ble_eq_true rfl⟩) hK hX hP hD hS hA (pk (bs := [[ob (b 0) 9 [.int rf, .ref (b 1), .int tn, .int sp, .ref (b 2), .ref (b 3), .ref (b 4), .ref (b 5), .int ac, .ref (b 6), .ref (b 7), .ref (b 8), .ref (b 9), .ref (b 10), .ref (b 11)]], [ia ty (b 3) 57 r], [la ty (b 8) 2 (tw x y)], [ia ty (b 6) 114 kk], [za ty (b 7) 2 kf], [la ty (b 11) 4 ks]]) (bsc := []) (bsr := [[ob (b 0) 9 [.int rf, .ref (b 1), .int tn, .int sp, .ref (b 2), .ref (b 3), .ref (b 4), .ref (b 5), .int ac, .ref (b 6), .ref (b 7), .ref (b 8), .ref (b 9), .ref (b 10), .ref (b 11)]], [ia ty (b 3) 57 r], [la ty (b 8) 2 (tw x y)], [ia ty (b 6) 114 kk], [za ty (b 7) 2 kf], [la ty (b 11) 4 ks]]) [] [0, 1, 2, 3, 4, 5] 6 rfl (by decide +kernel) rfl rfl) rfl hl.1 rfl (Nat.le_of_ble_eq_true rfl) dX10_save_5 ⟨Nat.le_of_ble_eq_true rfl, Nat.le_of_ble_eq_true rfl⟩ (fun r_2 u_1 h_3 H locs hP hD hS => ?_)
  have h_3 : r_2 = (inv (Int32.toInt64 i9) 0 1) := h_3
  subst h_3
  have hP : va_P D vwCl (fl [[ob (b 0) 9 [.int rf, .ref (b 1), .int tn, .int sp, .ref (b 2), .ref (b 3), .ref (b 4), .ref (b 5), .int ac, .ref (b 6), .ref (b 7), .ref (b 8), .ref (b 9), .ref (b 10), .ref (b 11)]], [ia ty (b 3) 57 r], [la ty (b 8) 2 (tw x y)], [ia ty (b 6) 114 kk], [za ty (b 7) 2 kf], [la ty (b 11) 4 ks]]) H := P_perm (po (bs := [[ob (b 0) 9 [.int rf, .ref (b 1), .int tn, .int sp, .ref (b 2), .ref (b 3), .ref (b 4), .ref (b 5), .int ac, .ref (b 6), .ref (b 7), .ref (b 8), .ref (b 9), .ref (b 10), .ref (b 11)]], [ia ty (b 3) 57 r], [la ty (b 8) 2 (tw x y)], [ia ty (b 6) 114 kk], [za ty (b 7) 2 kf], [la ty (b 11) 4 ks]]) [0, 1, 2, 3, 4, 5] 6 rfl (by decide +kernel) rfl) hP
  have hD : va_D A (fl [[ob (b 0) 9 [.int rf, .ref (b 1), .int tn, .int sp, .ref (b 2), .ref (b 3), .ref (b 4), .ref (b 5), .int ac, .ref (b 6), .ref (b 7), .ref (b 8), .ref (b 9), .ref (b 10), .ref (b 11)]], [ia ty (b 3) 57 r], [la ty (b 8) 2 (tw x y)], [ia ty (b 6) 114 kk], [za ty (b 7) 2 kf], [la ty (b 11) 4 ks]]) := D_perm (po (bs := [[ob (b 0) 9 [.int rf, .ref (b 1), .int tn, .int sp, .ref (b 2), .ref (b 3), .ref (b 4), .ref (b 5), .int ac, .ref (b 6), .ref (b 7), .ref (b 8), .ref (b 9), .ref (b 10), .ref (b 11)]], [ia ty (b 3) 57 r], [la ty (b 8) 2 (tw x y)], [ia ty (b 6) 114 kk], [za ty (b 7) 2 kf], [la ty (b 11) 4 ks]]) [0, 1, 2, 3, 4, 5] 6 rfl (by decide +kernel) rfl) hD
  refine lv_if_eq (tgt := 15) hx hb dX10_save_8 (by decide) (fun c_4 => ?_) (fun c_4 => ?_)
  · first | exact absurd c_4 (invI_y hc0 (by decide +kernel) (by decide +kernel)) | exact absurd (invI_y hc0 (by decide +kernel) (by decide +kernel)) c_4
  · skip
    refine lv_iconst (v := 0) hx hb dX10_save_11 (by decide) ?_
    refine lv_goto (tgt := 16) hx hb dX10_save_12 (by decide) ?_
    refine cVi (As := [.int 0]) (rest := []) ⟨hx, hb, hml, hown, hts⟩ (c_X10_refused0 l D ty b rf tn sp ac) (cwV 1 hts gX10_save_X10_refused rfl rfl rfl (by decide +kernel) ⟨Nat.le_of_ble_eq_true rfl, Nat.le_of_ble_eq_true rfl⟩) hK hX hP hD hS hA (pk (bs := [[ob (b 0) 9 [.int rf, .ref (b 1), .int tn, .int sp, .ref (b 2), .ref (b 3), .ref (b 4), .ref (b 5), .int ac, .ref (b 6), .ref (b 7), .ref (b 8), .ref (b 9), .ref (b 10), .ref (b 11)]], [ia ty (b 3) 57 r], [la ty (b 8) 2 (tw x y)], [ia ty (b 6) 114 kk], [za ty (b 7) 2 kf], [la ty (b 11) 4 ks]]) (bsc := [[ob (b 0) 9 [.int rf, .ref (b 1), .int tn, .int sp, .ref (b 2), .ref (b 3), .ref (b 4), .ref (b 5), .int ac, .ref (b 6), .ref (b 7), .ref (b 8), .ref (b 9), .ref (b 10), .ref (b 11)]]]) (bsr := [[ia ty (b 3) 57 r], [la ty (b 8) 2 (tw x y)], [ia ty (b 6) 114 kk], [za ty (b 7) 2 kf], [la ty (b 11) 4 ks]]) [0] [1, 2, 3, 4, 5] 6 rfl (by decide +kernel) rfl rfl) (ci := 9) rfl 0 rfl rfl hl.1 rfl (Nat.le_of_ble_eq_true rfl) dX10_save_16 ⟨Nat.le_of_ble_eq_true rfl, Nat.le_of_ble_eq_true rfl⟩ (fun r_6 u_5 h_7 H locs hP hD hS => ?_)
    have h_7 : r_6 = 0 := h_7
    subst h_7
    have hP : va_P D vwCl (fl [[ob (b 0) 9 [.int 0, .ref (b 1), .int tn, .int sp, .ref (b 2), .ref (b 3), .ref (b 4), .ref (b 5), .int ac, .ref (b 6), .ref (b 7), .ref (b 8), .ref (b 9), .ref (b 10), .ref (b 11)]], [ia ty (b 3) 57 r], [la ty (b 8) 2 (tw x y)], [ia ty (b 6) 114 kk], [za ty (b 7) 2 kf], [la ty (b 11) 4 ks]]) H := P_perm (po (bs := [[ob (b 0) 9 [.int 0, .ref (b 1), .int tn, .int sp, .ref (b 2), .ref (b 3), .ref (b 4), .ref (b 5), .int ac, .ref (b 6), .ref (b 7), .ref (b 8), .ref (b 9), .ref (b 10), .ref (b 11)]], [ia ty (b 3) 57 r], [la ty (b 8) 2 (tw x y)], [ia ty (b 6) 114 kk], [za ty (b 7) 2 kf], [la ty (b 11) 4 ks]]) [0, 1, 2, 3, 4, 5] 6 rfl (by decide +kernel) rfl) hP
    have hD : va_D A (fl [[ob (b 0) 9 [.int 0, .ref (b 1), .int tn, .int sp, .ref (b 2), .ref (b 3), .ref (b 4), .ref (b 5), .int ac, .ref (b 6), .ref (b 7), .ref (b 8), .ref (b 9), .ref (b 10), .ref (b 11)]], [ia ty (b 3) 57 r], [la ty (b 8) 2 (tw x y)], [ia ty (b 6) 114 kk], [za ty (b 7) 2 kf], [la ty (b 11) 4 ks]]) := D_perm (po (bs := [[ob (b 0) 9 [.int 0, .ref (b 1), .int tn, .int sp, .ref (b 2), .ref (b 3), .ref (b 4), .ref (b 5), .int ac, .ref (b 6), .ref (b 7), .ref (b 8), .ref (b 9), .ref (b 10), .ref (b 11)]], [ia ty (b 3) 57 r], [la ty (b 8) 2 (tw x y)], [ia ty (b 6) 114 kk], [za ty (b 7) 2 kf], [la ty (b 11) 4 ks]]) [0, 1, 2, 3, 4, 5] 6 rfl (by decide +kernel) rfl) hD
    refine lv_if_eq (tgt := 24) hx hb dX10_save_19 (by decide) (fun c_8 => ?_) (fun c_8 => ?_)
    · skip
      obtain ⟨J, hJ⟩ : ∃ z, z = i9.toNatClampNeg := ⟨_, rfl⟩
      have nJ : i9 = nI J := by rw [hJ]; exact nI_self hc0.1
      have lJ : J < 2 := by rw [hJ]; exact nI_ltn hc0.1 (by decide) (show i9 < nI 2 from hc0.2)
      have hl : lv_has ls 2 [(0, .ref (b 0)), (1, .int (nI J))] := by rw [← nJ]; exact hl
      refine lv_aload_n hx hb dX10_save_24 rfl (lv_at hl 0 rfl) ?_
      refine va_get (D := D) (ci := 9) (v := .ref (b 7)) (C := RX10) (T := TX10) (N := 15) hx hb hts i_X10 hown hK hP 0 rfl rfl 10 (by decide) (hts (Cond.fieldLink RX10 28 "BrownClockModel" "isKept" "[Z") (List.mem_of_getElem? (i := 1) rfl)) (fun _ h9 => h9) rfl dX10_save_25 ?_
      refine lv_iload_n hx hb dX10_save_28 rfl (lv_at hl 1 rfl) ?_
      refine lv_iconst (v := 1) hx hb dX10_save_29 (by decide) ?_
      refine k_zast hx hb hK hP hD hS 4 rfl J rfl (by omega) (Nat.le_of_ble_eq_true rfl) rfl dX10_save_30 (fun H locs hP hD hS => ?_)
      have hP : va_P D vwCl (fl [[ob (b 0) 9 [.int 0, .ref (b 1), .int tn, .int sp, .ref (b 2), .ref (b 3), .ref (b 4), .ref (b 5), .int ac, .ref (b 6), .ref (b 7), .ref (b 8), .ref (b 9), .ref (b 10), .ref (b 11)]], [ia ty (b 3) 57 r], [la ty (b 8) 2 (tw x y)], [ia ty (b 6) 114 kk], [za ty (b 7) 2 (upd kf J 1)], [la ty (b 11) 4 ks]]) H := hP
      have hD : va_D A (fl [[ob (b 0) 9 [.int 0, .ref (b 1), .int tn, .int sp, .ref (b 2), .ref (b 3), .ref (b 4), .ref (b 5), .int ac, .ref (b 6), .ref (b 7), .ref (b 8), .ref (b 9), .ref (b 10), .ref (b 11)]], [ia ty (b 3) 57 r], [la ty (b 8) 2 (tw x y)], [ia ty (b 6) 114 kk], [za ty (b 7) 2 (upd kf J 1)], [la ty (b 11) 4 ks]]) := hD
      refine lv_aload_n hx hb dX10_save_31 rfl (lv_at hl 0 rfl) ?_
      refine va_get (D := D) (ci := 9) (v := .ref (b 3)) (C := RX10) (T := TX10) (N := 15) hx hb hts i_X10 hown hK hP 0 rfl rfl 5 (by decide) (hts (Cond.fieldLink RX10 16 "BrownClockModel" "now" "[I") (List.mem_of_getElem? (i := 2) rfl)) (fun _ h9 => h9) rfl dX10_save_32 ?_
      refine lv_iconst (v := 0) hx hb dX10_save_35 (by decide) ?_
      refine lv_aload_n hx hb dX10_save_36 rfl (lv_at hl 0 rfl) ?_
      refine va_get (D := D) (ci := 9) (v := .ref (b 6)) (C := RX10) (T := TX10) (N := 15) hx hb hts i_X10 hown hK hP 0 rfl rfl 9 (by decide) (hts (Cond.fieldLink RX10 25 "BrownClockModel" "kept" "[I") (List.mem_of_getElem? (i := 3) rfl)) (fun _ h9 => h9) rfl dX10_save_37 ?_
      refine lv_bipush (v := 57) hx hb dX10_save_40 (by decide) ?_
      refine lv_iload_n hx hb dX10_save_42 rfl (lv_at hl 1 rfl) ?_
      refine k_imul (v := (nI (57 * J))) hx hb dX10_save_43 (nI_mul (57) (J)) ?_
      refine cSv (As := [.ref (b 3), .int 0, .ref (b 6), .int (nI (57 * J))]) (rest := []) ⟨hx, hb, hml, hown, hts⟩ (c_X10_copyPage l D ty (b 3) (b 6) 57 114 0 (57 * J) r kk (by omega) (by omega) (by omega) (by omega)) (va_cwS 4 hts gX10_save_X10_copyPage rfl rfl rfl (by decide +kernel) ⟨Nat.le_of_ble_eq_true rfl, Nat.le_of_ble_eq_true rfl⟩) hK hX hP hD hS hA (pk (bs := [[ob (b 0) 9 [.int 0, .ref (b 1), .int tn, .int sp, .ref (b 2), .ref (b 3), .ref (b 4), .ref (b 5), .int ac, .ref (b 6), .ref (b 7), .ref (b 8), .ref (b 9), .ref (b 10), .ref (b 11)]], [ia ty (b 3) 57 r], [la ty (b 8) 2 (tw x y)], [ia ty (b 6) 114 kk], [za ty (b 7) 2 (upd kf J 1)], [la ty (b 11) 4 ks]]) (bsc := [[ia ty (b 3) 57 r], [ia ty (b 6) 114 kk]]) (bsr := [[ob (b 0) 9 [.int 0, .ref (b 1), .int tn, .int sp, .ref (b 2), .ref (b 3), .ref (b 4), .ref (b 5), .int ac, .ref (b 6), .ref (b 7), .ref (b 8), .ref (b 9), .ref (b 10), .ref (b 11)]], [la ty (b 8) 2 (tw x y)], [za ty (b 7) 2 (upd kf J 1)], [la ty (b 11) 4 ks]]) [1, 3] [0, 2, 4, 5] 6 rfl (by decide +kernel) rfl rfl) rfl hl.1 rfl (Nat.le_of_ble_eq_true rfl) dX10_save_44 ⟨Nat.le_of_ble_eq_true rfl, Nat.le_of_ble_eq_true rfl⟩ (fun u_9 h_11 H locs hP hD hS => ?_)
      have hP : va_P D vwCl (fl [[ob (b 0) 9 [.int 0, .ref (b 1), .int tn, .int sp, .ref (b 2), .ref (b 3), .ref (b 4), .ref (b 5), .int ac, .ref (b 6), .ref (b 7), .ref (b 8), .ref (b 9), .ref (b 10), .ref (b 11)]], [ia ty (b 3) 57 r], [la ty (b 8) 2 (tw x y)], [ia ty (b 6) 114 (va_cpy r kk 0 (57 * J) 57)], [za ty (b 7) 2 (upd kf J 1)], [la ty (b 11) 4 ks]]) H := P_perm (po (bs := [[ia ty (b 3) 57 r], [ia ty (b 6) 114 (va_cpy r kk 0 (57 * J) 57)], [ob (b 0) 9 [.int 0, .ref (b 1), .int tn, .int sp, .ref (b 2), .ref (b 3), .ref (b 4), .ref (b 5), .int ac, .ref (b 6), .ref (b 7), .ref (b 8), .ref (b 9), .ref (b 10), .ref (b 11)]], [la ty (b 8) 2 (tw x y)], [za ty (b 7) 2 (upd kf J 1)], [la ty (b 11) 4 ks]]) [2, 0, 3, 1, 4, 5] 6 rfl (by decide +kernel) rfl) hP
      have hD : va_D A (fl [[ob (b 0) 9 [.int 0, .ref (b 1), .int tn, .int sp, .ref (b 2), .ref (b 3), .ref (b 4), .ref (b 5), .int ac, .ref (b 6), .ref (b 7), .ref (b 8), .ref (b 9), .ref (b 10), .ref (b 11)]], [ia ty (b 3) 57 r], [la ty (b 8) 2 (tw x y)], [ia ty (b 6) 114 (va_cpy r kk 0 (57 * J) 57)], [za ty (b 7) 2 (upd kf J 1)], [la ty (b 11) 4 ks]]) := D_perm (po (bs := [[ia ty (b 3) 57 r], [ia ty (b 6) 114 (va_cpy r kk 0 (57 * J) 57)], [ob (b 0) 9 [.int 0, .ref (b 1), .int tn, .int sp, .ref (b 2), .ref (b 3), .ref (b 4), .ref (b 5), .int ac, .ref (b 6), .ref (b 7), .ref (b 8), .ref (b 9), .ref (b 10), .ref (b 11)]], [la ty (b 8) 2 (tw x y)], [za ty (b 7) 2 (upd kf J 1)], [la ty (b 11) 4 ks]]) [2, 0, 3, 1, 4, 5] 6 rfl (by decide +kernel) rfl) hD
      refine lv_aload_n hx hb dX10_save_47 rfl (lv_at hl 0 rfl) ?_
      refine va_get (D := D) (ci := 9) (v := .ref (b 11)) (C := RX10) (T := TX10) (N := 15) hx hb hts i_X10 hown hK hP 0 rfl rfl 14 (by decide) (hts (Cond.fieldLink RX10 42 "BrownClockModel" "keptSums" "[J") (List.mem_of_getElem? (i := 4) rfl)) (fun _ h9 => h9) rfl dX10_save_48 ?_
      refine lv_iconst (v := 2) hx hb dX10_save_51 (by decide) ?_
      refine lv_iload_n hx hb dX10_save_52 rfl (lv_at hl 1 rfl) ?_
      refine k_imul (v := (nI (2 * J))) hx hb dX10_save_53 (nI_mul (2) (J)) ?_
      refine lv_aload_n hx hb dX10_save_54 rfl (lv_at hl 0 rfl) ?_
      refine va_get (D := D) (ci := 9) (v := .ref (b 8)) (C := RX10) (T := TX10) (N := 15) hx hb hts i_X10 hown hK hP 0 rfl rfl 11 (by decide) (hts (Cond.fieldLink RX10 32 "BrownClockModel" "sums" "[J") (List.mem_of_getElem? (i := 5) rfl)) (fun _ h9 => h9) rfl dX10_save_55 ?_
      refine lv_iconst (v := 0) hx hb dX10_save_58 (by decide) ?_
      refine k_lald hx hb hK hP 2 rfl 0 rfl (by decide) (Nat.le_of_ble_eq_true rfl) (v := x) rfl dX10_save_59 ?_
      refine k_last hx hb hK hP hD hS 5 rfl (2 * J) rfl (by omega) (Nat.le_of_ble_eq_true rfl) dX10_save_60 (fun H locs hP hD hS => ?_)
      have hP : va_P D vwCl (fl [[ob (b 0) 9 [.int 0, .ref (b 1), .int tn, .int sp, .ref (b 2), .ref (b 3), .ref (b 4), .ref (b 5), .int ac, .ref (b 6), .ref (b 7), .ref (b 8), .ref (b 9), .ref (b 10), .ref (b 11)]], [ia ty (b 3) 57 r], [la ty (b 8) 2 (tw x y)], [ia ty (b 6) 114 (va_cpy r kk 0 (57 * J) 57)], [za ty (b 7) 2 (upd kf J 1)], [la ty (b 11) 4 (vp_updL ks (2 * J) x)]]) H := hP
      have hD : va_D A (fl [[ob (b 0) 9 [.int 0, .ref (b 1), .int tn, .int sp, .ref (b 2), .ref (b 3), .ref (b 4), .ref (b 5), .int ac, .ref (b 6), .ref (b 7), .ref (b 8), .ref (b 9), .ref (b 10), .ref (b 11)]], [ia ty (b 3) 57 r], [la ty (b 8) 2 (tw x y)], [ia ty (b 6) 114 (va_cpy r kk 0 (57 * J) 57)], [za ty (b 7) 2 (upd kf J 1)], [la ty (b 11) 4 (vp_updL ks (2 * J) x)]]) := hD
      refine lv_aload_n hx hb dX10_save_61 rfl (lv_at hl 0 rfl) ?_
      refine va_get (D := D) (ci := 9) (v := .ref (b 11)) (C := RX10) (T := TX10) (N := 15) hx hb hts i_X10 hown hK hP 0 rfl rfl 14 (by decide) (hts (Cond.fieldLink RX10 42 "BrownClockModel" "keptSums" "[J") (List.mem_of_getElem? (i := 4) rfl)) (fun _ h9 => h9) rfl dX10_save_62 ?_
      refine lv_iconst (v := 2) hx hb dX10_save_65 (by decide) ?_
      refine lv_iload_n hx hb dX10_save_66 rfl (lv_at hl 1 rfl) ?_
      refine k_imul (v := (nI (2 * J))) hx hb dX10_save_67 (nI_mul (2) (J)) ?_
      refine lv_iconst (v := 1) hx hb dX10_save_68 (by decide) ?_
      refine k_iadd (v := (nI (2 * J + 1))) hx hb dX10_save_69 (nI_add (2 * J) (1)) ?_
      refine lv_aload_n hx hb dX10_save_70 rfl (lv_at hl 0 rfl) ?_
      refine va_get (D := D) (ci := 9) (v := .ref (b 8)) (C := RX10) (T := TX10) (N := 15) hx hb hts i_X10 hown hK hP 0 rfl rfl 11 (by decide) (hts (Cond.fieldLink RX10 32 "BrownClockModel" "sums" "[J") (List.mem_of_getElem? (i := 5) rfl)) (fun _ h9 => h9) rfl dX10_save_71 ?_
      refine lv_iconst (v := 1) hx hb dX10_save_74 (by decide) ?_
      refine k_lald hx hb hK hP 2 rfl 1 rfl (by decide) (Nat.le_of_ble_eq_true rfl) (v := y) rfl dX10_save_75 ?_
      refine k_last hx hb hK hP hD hS 5 rfl (2 * J + 1) rfl (by omega) (Nat.le_of_ble_eq_true rfl) dX10_save_76 (fun H locs hP hD hS => ?_)
      have hP : va_P D vwCl (fl [[ob (b 0) 9 [.int 0, .ref (b 1), .int tn, .int sp, .ref (b 2), .ref (b 3), .ref (b 4), .ref (b 5), .int ac, .ref (b 6), .ref (b 7), .ref (b 8), .ref (b 9), .ref (b 10), .ref (b 11)]], [ia ty (b 3) 57 r], [la ty (b 8) 2 (tw x y)], [ia ty (b 6) 114 (va_cpy r kk 0 (57 * J) 57)], [za ty (b 7) 2 (upd kf J 1)], [la ty (b 11) 4 (vp_updL (vp_updL ks (2 * J) x) (2 * J + 1) y)]]) H := hP
      have hD : va_D A (fl [[ob (b 0) 9 [.int 0, .ref (b 1), .int tn, .int sp, .ref (b 2), .ref (b 3), .ref (b 4), .ref (b 5), .int ac, .ref (b 6), .ref (b 7), .ref (b 8), .ref (b 9), .ref (b 10), .ref (b 11)]], [ia ty (b 3) 57 r], [la ty (b 8) 2 (tw x y)], [ia ty (b 6) 114 (va_cpy r kk 0 (57 * J) 57)], [za ty (b 7) 2 (upd kf J 1)], [la ty (b 11) 4 (vp_updL (vp_updL ks (2 * J) x) (2 * J + 1) y)]]) := hD
      refine lv_aload_n hx hb dX10_save_77 rfl (lv_at hl 0 rfl) ?_
      refine va_get (D := D) (ci := 9) (v := .ref (b 3)) (C := RX10) (T := TX10) (N := 15) hx hb hts i_X10 hown hK hP 0 rfl rfl 5 (by decide) (hts (Cond.fieldLink RX10 16 "BrownClockModel" "now" "[I") (List.mem_of_getElem? (i := 2) rfl)) (fun _ h9 => h9) rfl dX10_save_78 ?_
      refine lv_iconst (v := 0) hx hb dX10_save_81 (by decide) ?_
      refine k_iald hx hb hK hP 1 rfl 0 rfl (by decide) (Nat.le_of_ble_eq_true rfl) (v := r 0) rfl dX10_save_82 ?_
      have hPn := hP
      have hDn := hD
      have hSn := hS
      subst hJ
      have hP := hPn
      have hD := hDn
      have hS := hSn
      have hP : va_P D vwCl (fl [[ob (b 0) 9 [.int 0, .ref (b 1), .int tn, .int sp, .ref (b 2), .ref (b 3), .ref (b 4), .ref (b 5), .int ac, .ref (b 6), .ref (b 7), .ref (b 8), .ref (b 9), .ref (b 10), .ref (b 11)]], [ia ty (b 3) 57 r], [la ty (b 8) 2 (tw x y)], [ia ty (b 6) 114 (va_cpy r kk 0 (57 * i9.toNatClampNeg) 57)], [za ty (b 7) 2 (upd kf i9.toNatClampNeg 1)], [la ty (b 11) 4 (vp_updL (vp_updL ks (2 * i9.toNatClampNeg) x) (2 * i9.toNatClampNeg + 1) y)]]) H := hP
      have hD : va_D A (fl [[ob (b 0) 9 [.int 0, .ref (b 1), .int tn, .int sp, .ref (b 2), .ref (b 3), .ref (b 4), .ref (b 5), .int ac, .ref (b 6), .ref (b 7), .ref (b 8), .ref (b 9), .ref (b 10), .ref (b 11)]], [ia ty (b 3) 57 r], [la ty (b 8) 2 (tw x y)], [ia ty (b 6) 114 (va_cpy r kk 0 (57 * i9.toNatClampNeg) 57)], [za ty (b 7) 2 (upd kf i9.toNatClampNeg 1)], [la ty (b 11) 4 (vp_updL (vp_updL ks (2 * i9.toNatClampNeg) x) (2 * i9.toNatClampNeg + 1) y)]]) := (D_same2 hD [(b 0), (b 3), (b 8), (b 6), (b 7), (b 11)] rfl rfl)
      exact end_i (bs' := (fun (_ : Unit) => [[ob (b 0) 9 [.int 0, .ref (b 1), .int tn, .int sp, .ref (b 2), .ref (b 3), .ref (b 4), .ref (b 5), .int ac, .ref (b 6), .ref (b 7), .ref (b 8), .ref (b 9), .ref (b 10), .ref (b 11)]], [ia ty (b 3) 57 r], [la ty (b 8) 2 (tw x y)], [ia ty (b 6) 114 (va_cpy r kk 0 (57 * i9.toNatClampNeg) 57)], [za ty (b 7) 2 (upd kf i9.toNatClampNeg 1)], [la ty (b 11) 4 (vp_updL (vp_updL ks (2 * i9.toNatClampNeg) x) (2 * i9.toNatClampNeg + 1) y)]])) () hx hb hr hlocks hP hD hS rfl (Nat.le_of_ble_eq_true rfl) (Nat.le_of_ble_eq_true rfl) dX10_save_83
    · exact absurd (by decide) c_8
set_option maxHeartbeats 4000000 in
set_option maxRecDepth 100000 in
theorem c_X10_save_n0 (l : Launch) (D : va_G) (ty : Nat → ClassId) (b : Nat → Nat) (rf tn sp ac : Int32) (r : Nat → Int32) (x y : Int64) (kk kf : Nat → Int32) (ks : Nat → Int64) (i9 : Int32) (hc0 : ¬ (inI i9 2)) : CTi l yX10_save wsX10_save ({ frames := 1, cells := 0, slots := 0, locals := 25 }) D ty [.ref (b 0), .int i9] [[ob (b 0) 9 [.int rf, .ref (b 1), .int tn, .int sp, .ref (b 2), .ref (b 3), .ref (b 4), .ref (b 5), .int ac, .ref (b 6), .ref (b 7), .ref (b 8), .ref (b 9), .ref (b 10), .ref (b 11)]]] (fun (RET : Int32) (_ : Unit) => RET = 0) (fun (_ : Unit) => [[ob (b 0) 9 [.int 1, .ref (b 1), .int tn, .int sp, .ref (b 2), .ref (b 3), .ref (b 4), .ref (b 5), .int ac, .ref (b 6), .ref (b 7), .ref (b 8), .ref (b 9), .ref (b 10), .ref (b 11)]]]) := by
  refine CTi_of cX10_save 2 (some .int) (by decide) rfl (Nat.le_of_ble_eq_true rfl) ?_
  intro p e s m args below meth c A hx hb hr hml hown hlocks hin hts hA hX hK hP hD ls hl
  have hown : s.vm.findClass RX10 = some m.cls := hown
  have hS : va_S A s.heap s.heap [] := va_S.rf
  have hl : lv_has ls 2 [(0, .ref (b 0)), (1, .int i9)] := hl
  refine lv_aload_n hx hb dX10_save_0 rfl (lv_at hl 0 rfl) ?_
  refine lv_iload_n hx hb dX10_save_1 rfl (lv_at hl 1 rfl) ?_
  refine lv_i2l (v := (Int32.toInt64 i9)) hx hb dX10_save_2 rfl ?_
  refine lv_lconst (v := 0) hx hb dX10_save_3 (by decide) ?_
  refine lv_lconst (v := 1) hx hb dX10_save_4 (by decide) ?_
  refine cSi (As := [.long (Int32.toInt64 i9), .long 0, .long 1]) (rest := [.ref (b 0)]) ⟨hx, hb, hml, hown, hts⟩ (c_X10_in l D ty (Int32.toInt64 i9) 0 1) (va_cwS 3 hts gX10_save_X10_in rfl rfl rfl (by decide +kernel) ⟨Nat.le_of_ble_eq_true rfl, Nat.le_of_ble_eq_true rfl⟩) hK hX hP hD hS hA (pk (bs := [[ob (b 0) 9 [.int rf, .ref (b 1), .int tn, .int sp, .ref (b 2), .ref (b 3), .ref (b 4), .ref (b 5), .int ac, .ref (b 6), .ref (b 7), .ref (b 8), .ref (b 9), .ref (b 10), .ref (b 11)]]]) (bsc := []) (bsr := [[ob (b 0) 9 [.int rf, .ref (b 1), .int tn, .int sp, .ref (b 2), .ref (b 3), .ref (b 4), .ref (b 5), .int ac, .ref (b 6), .ref (b 7), .ref (b 8), .ref (b 9), .ref (b 10), .ref (b 11)]]]) [] [0] 1 rfl (by decide +kernel) rfl rfl) rfl hl.1 rfl (Nat.le_of_ble_eq_true rfl) dX10_save_5 ⟨Nat.le_of_ble_eq_true rfl, Nat.le_of_ble_eq_true rfl⟩ (fun r_2 u_1 h_3 H locs hP hD hS => ?_)
  have h_3 : r_2 = (inv (Int32.toInt64 i9) 0 1) := h_3
  subst h_3
  have hP : va_P D vwCl (fl [[ob (b 0) 9 [.int rf, .ref (b 1), .int tn, .int sp, .ref (b 2), .ref (b 3), .ref (b 4), .ref (b 5), .int ac, .ref (b 6), .ref (b 7), .ref (b 8), .ref (b 9), .ref (b 10), .ref (b 11)]]]) H := P_perm (po (bs := [[ob (b 0) 9 [.int rf, .ref (b 1), .int tn, .int sp, .ref (b 2), .ref (b 3), .ref (b 4), .ref (b 5), .int ac, .ref (b 6), .ref (b 7), .ref (b 8), .ref (b 9), .ref (b 10), .ref (b 11)]]]) [0] 1 rfl (by decide +kernel) rfl) hP
  have hD : va_D A (fl [[ob (b 0) 9 [.int rf, .ref (b 1), .int tn, .int sp, .ref (b 2), .ref (b 3), .ref (b 4), .ref (b 5), .int ac, .ref (b 6), .ref (b 7), .ref (b 8), .ref (b 9), .ref (b 10), .ref (b 11)]]]) := D_perm (po (bs := [[ob (b 0) 9 [.int rf, .ref (b 1), .int tn, .int sp, .ref (b 2), .ref (b 3), .ref (b 4), .ref (b 5), .int ac, .ref (b 6), .ref (b 7), .ref (b 8), .ref (b 9), .ref (b 10), .ref (b 11)]]]) [0] 1 rfl (by decide +kernel) rfl) hD
  refine lv_if_eq (tgt := 15) hx hb dX10_save_8 (by decide) (fun c_4 => ?_) (fun c_4 => ?_)
  · skip
    refine lv_iconst (v := 1) hx hb dX10_save_15 (by decide) ?_
    refine cVi (As := [.int 1]) (rest := []) ⟨hx, hb, hml, hown, hts⟩ (c_X10_refused1 l D ty b rf tn sp ac 1 (by decide)) (cwV 1 hts gX10_save_X10_refused rfl rfl rfl (by decide +kernel) ⟨Nat.le_of_ble_eq_true rfl, Nat.le_of_ble_eq_true rfl⟩) hK hX hP hD hS hA (pk (bs := [[ob (b 0) 9 [.int rf, .ref (b 1), .int tn, .int sp, .ref (b 2), .ref (b 3), .ref (b 4), .ref (b 5), .int ac, .ref (b 6), .ref (b 7), .ref (b 8), .ref (b 9), .ref (b 10), .ref (b 11)]]]) (bsc := [[ob (b 0) 9 [.int rf, .ref (b 1), .int tn, .int sp, .ref (b 2), .ref (b 3), .ref (b 4), .ref (b 5), .int ac, .ref (b 6), .ref (b 7), .ref (b 8), .ref (b 9), .ref (b 10), .ref (b 11)]]]) (bsr := []) [0] [] 1 rfl (by decide +kernel) rfl rfl) (ci := 9) rfl 0 rfl rfl hl.1 rfl (Nat.le_of_ble_eq_true rfl) dX10_save_16 ⟨Nat.le_of_ble_eq_true rfl, Nat.le_of_ble_eq_true rfl⟩ (fun r_6 u_5 h_7 H locs hP hD hS => ?_)
    have h_7 : r_6 = 1 := h_7
    subst h_7
    have hP : va_P D vwCl (fl [[ob (b 0) 9 [.int 1, .ref (b 1), .int tn, .int sp, .ref (b 2), .ref (b 3), .ref (b 4), .ref (b 5), .int ac, .ref (b 6), .ref (b 7), .ref (b 8), .ref (b 9), .ref (b 10), .ref (b 11)]]]) H := P_perm (po (bs := [[ob (b 0) 9 [.int 1, .ref (b 1), .int tn, .int sp, .ref (b 2), .ref (b 3), .ref (b 4), .ref (b 5), .int ac, .ref (b 6), .ref (b 7), .ref (b 8), .ref (b 9), .ref (b 10), .ref (b 11)]]]) [0] 1 rfl (by decide +kernel) rfl) hP
    have hD : va_D A (fl [[ob (b 0) 9 [.int 1, .ref (b 1), .int tn, .int sp, .ref (b 2), .ref (b 3), .ref (b 4), .ref (b 5), .int ac, .ref (b 6), .ref (b 7), .ref (b 8), .ref (b 9), .ref (b 10), .ref (b 11)]]]) := D_perm (po (bs := [[ob (b 0) 9 [.int 1, .ref (b 1), .int tn, .int sp, .ref (b 2), .ref (b 3), .ref (b 4), .ref (b 5), .int ac, .ref (b 6), .ref (b 7), .ref (b 8), .ref (b 9), .ref (b 10), .ref (b 11)]]]) [0] 1 rfl (by decide +kernel) rfl) hD
    refine lv_if_eq (tgt := 24) hx hb dX10_save_19 (by decide) (fun c_8 => ?_) (fun c_8 => ?_)
    · exact absurd c_8 (by decide)
    · skip
      refine lv_iconst (v := 0) hx hb dX10_save_22 (by decide) ?_
      have hP : va_P D vwCl (fl [[ob (b 0) 9 [.int 1, .ref (b 1), .int tn, .int sp, .ref (b 2), .ref (b 3), .ref (b 4), .ref (b 5), .int ac, .ref (b 6), .ref (b 7), .ref (b 8), .ref (b 9), .ref (b 10), .ref (b 11)]]]) H := hP
      have hD : va_D A (fl [[ob (b 0) 9 [.int 1, .ref (b 1), .int tn, .int sp, .ref (b 2), .ref (b 3), .ref (b 4), .ref (b 5), .int ac, .ref (b 6), .ref (b 7), .ref (b 8), .ref (b 9), .ref (b 10), .ref (b 11)]]]) := hD
      exact end_i (bs' := (fun (_ : Unit) => [[ob (b 0) 9 [.int 1, .ref (b 1), .int tn, .int sp, .ref (b 2), .ref (b 3), .ref (b 4), .ref (b 5), .int ac, .ref (b 6), .ref (b 7), .ref (b 8), .ref (b 9), .ref (b 10), .ref (b 11)]]])) () hx hb hr hlocks hP hD hS (by first | rfl | decide | simp [c_4, c_8]) (Nat.le_of_ble_eq_true rfl) (Nat.le_of_ble_eq_true rfl) dX10_save_23
  · first | exact absurd c_4 (invI_n hc0 (by decide +kernel) (by decide +kernel)) | exact absurd (invI_n hc0 (by decide +kernel) (by decide +kernel)) c_4
set_option maxHeartbeats 4000000 in
set_option maxRecDepth 100000 in
theorem c_X10_restore (l : Launch) (D : va_G) (ty : Nat → ClassId) (b : Nat → Nat) (rf tn sp ac : Int32) (r : Nat → Int32) (x y : Int64) (kk kf : Nat → Int32) (ks : Nat → Int64) (rn : Nat → Int32) (xn yn : Int64) (i9 : Int32) (hd : ∀ k, k < 57 → kk (57 * i9.toNatClampNeg + k) = rn k) (hs1 : ks (2 * i9.toNatClampNeg) = xn) (hs2 : ks (2 * i9.toNatClampNeg + 1) = yn) (hc0 : inI i9 2) (hc1 : ¬ kf i9.toNatClampNeg = 0) : CTi l yX10_restore wsX10_restore ({ frames := 1, cells := 0, slots := 0, locals := 25 }) D ty [.ref (b 0), .int i9] [[ob (b 0) 9 [.int rf, .ref (b 1), .int tn, .int sp, .ref (b 2), .ref (b 3), .ref (b 4), .ref (b 5), .int ac, .ref (b 6), .ref (b 7), .ref (b 8), .ref (b 9), .ref (b 10), .ref (b 11)]], [ia ty (b 3) 57 r], [la ty (b 8) 2 (tw x y)], [ia ty (b 6) 114 kk], [za ty (b 7) 2 kf], [la ty (b 11) 4 ks]] (fun (RET : Int32) (_ : Unit) => RET = (rn 0)) (fun (_ : Unit) => [[ob (b 0) 9 [.int 0, .ref (b 1), .int tn, .int sp, .ref (b 2), .ref (b 3), .ref (b 4), .ref (b 5), .int 0, .ref (b 6), .ref (b 7), .ref (b 8), .ref (b 9), .ref (b 10), .ref (b 11)]], [ia ty (b 3) 57 rn], [la ty (b 8) 2 (tw xn yn)], [ia ty (b 6) 114 kk], [za ty (b 7) 2 kf], [la ty (b 11) 4 ks]]) := by
  refine CTi_of cX10_restore 2 (some .int) (by decide) rfl (Nat.le_of_ble_eq_true rfl) ?_
  intro p e s m args below meth c A hx hb hr hml hown hlocks hin hts hA hX hK hP hD ls hl
  have hown : s.vm.findClass RX10 = some m.cls := hown
  have hS : va_S A s.heap s.heap [] := va_S.rf
  have i_X10 : ∀ z ∈ wsX100, z ∈ wsX10_restore := fun z h => List.mem_cons_of_mem _ (List.mem_append_right _ h)
  have hl : lv_has ls 2 [(0, .ref (b 0)), (1, .int i9)] := hl
  refine lv_aload_n hx hb dX10_restore_0 rfl (lv_at hl 0 rfl) ?_
  refine lv_iload_n hx hb dX10_restore_1 rfl (lv_at hl 1 rfl) ?_
  refine lv_i2l (v := (Int32.toInt64 i9)) hx hb dX10_restore_2 rfl ?_
  refine lv_lconst (v := 0) hx hb dX10_restore_3 (by decide) ?_
  refine lv_lconst (v := 1) hx hb dX10_restore_4 (by decide) ?_
  refine cSi (As := [.long (Int32.toInt64 i9), .long 0, .long 1]) (rest := [.ref (b 0)]) ⟨hx, hb, hml, hown, hts⟩ (c_X10_in l D ty (Int32.toInt64 i9) 0 1) (va_cwS 3 hts gX10_restore_X10_in rfl rfl rfl (by decide +kernel) ⟨Nat.le_of_ble_eq_true rfl, Nat.le_of_ble_eq_true rfl⟩) hK hX hP hD hS hA (pk (bs := [[ob (b 0) 9 [.int rf, .ref (b 1), .int tn, .int sp, .ref (b 2), .ref (b 3), .ref (b 4), .ref (b 5), .int ac, .ref (b 6), .ref (b 7), .ref (b 8), .ref (b 9), .ref (b 10), .ref (b 11)]], [ia ty (b 3) 57 r], [la ty (b 8) 2 (tw x y)], [ia ty (b 6) 114 kk], [za ty (b 7) 2 kf], [la ty (b 11) 4 ks]]) (bsc := []) (bsr := [[ob (b 0) 9 [.int rf, .ref (b 1), .int tn, .int sp, .ref (b 2), .ref (b 3), .ref (b 4), .ref (b 5), .int ac, .ref (b 6), .ref (b 7), .ref (b 8), .ref (b 9), .ref (b 10), .ref (b 11)]], [ia ty (b 3) 57 r], [la ty (b 8) 2 (tw x y)], [ia ty (b 6) 114 kk], [za ty (b 7) 2 kf], [la ty (b 11) 4 ks]]) [] [0, 1, 2, 3, 4, 5] 6 rfl (by decide +kernel) rfl rfl) rfl hl.1 rfl (Nat.le_of_ble_eq_true rfl) dX10_restore_5 ⟨Nat.le_of_ble_eq_true rfl, Nat.le_of_ble_eq_true rfl⟩ (fun r_2 u_1 h_3 H locs hP hD hS => ?_)
  have h_3 : r_2 = (inv (Int32.toInt64 i9) 0 1) := h_3
  subst h_3
  have hP : va_P D vwCl (fl [[ob (b 0) 9 [.int rf, .ref (b 1), .int tn, .int sp, .ref (b 2), .ref (b 3), .ref (b 4), .ref (b 5), .int ac, .ref (b 6), .ref (b 7), .ref (b 8), .ref (b 9), .ref (b 10), .ref (b 11)]], [ia ty (b 3) 57 r], [la ty (b 8) 2 (tw x y)], [ia ty (b 6) 114 kk], [za ty (b 7) 2 kf], [la ty (b 11) 4 ks]]) H := P_perm (po (bs := [[ob (b 0) 9 [.int rf, .ref (b 1), .int tn, .int sp, .ref (b 2), .ref (b 3), .ref (b 4), .ref (b 5), .int ac, .ref (b 6), .ref (b 7), .ref (b 8), .ref (b 9), .ref (b 10), .ref (b 11)]], [ia ty (b 3) 57 r], [la ty (b 8) 2 (tw x y)], [ia ty (b 6) 114 kk], [za ty (b 7) 2 kf], [la ty (b 11) 4 ks]]) [0, 1, 2, 3, 4, 5] 6 rfl (by decide +kernel) rfl) hP
  have hD : va_D A (fl [[ob (b 0) 9 [.int rf, .ref (b 1), .int tn, .int sp, .ref (b 2), .ref (b 3), .ref (b 4), .ref (b 5), .int ac, .ref (b 6), .ref (b 7), .ref (b 8), .ref (b 9), .ref (b 10), .ref (b 11)]], [ia ty (b 3) 57 r], [la ty (b 8) 2 (tw x y)], [ia ty (b 6) 114 kk], [za ty (b 7) 2 kf], [la ty (b 11) 4 ks]]) := D_perm (po (bs := [[ob (b 0) 9 [.int rf, .ref (b 1), .int tn, .int sp, .ref (b 2), .ref (b 3), .ref (b 4), .ref (b 5), .int ac, .ref (b 6), .ref (b 7), .ref (b 8), .ref (b 9), .ref (b 10), .ref (b 11)]], [ia ty (b 3) 57 r], [la ty (b 8) 2 (tw x y)], [ia ty (b 6) 114 kk], [za ty (b 7) 2 kf], [la ty (b 11) 4 ks]]) [0, 1, 2, 3, 4, 5] 6 rfl (by decide +kernel) rfl) hD
  refine lv_if_ne (tgt := 15) hx hb dX10_restore_8 (by decide) (fun c_4 => ?_) (fun c_4 => ?_)
  · skip
    obtain ⟨J, hJ⟩ : ∃ z, z = i9.toNatClampNeg := ⟨_, rfl⟩
    have nJ : i9 = nI J := by rw [hJ]; exact nI_self hc0.1
    have lJ : J < 2 := by rw [hJ]; exact nI_ltn hc0.1 (by decide) (show i9 < nI 2 from hc0.2)
    have hl : lv_has ls 2 [(0, .ref (b 0)), (1, .int (nI J))] := by rw [← nJ]; exact hl
    refine lv_aload_n hx hb dX10_restore_15 rfl (lv_at hl 0 rfl) ?_
    refine va_get (D := D) (ci := 9) (v := .ref (b 7)) (C := RX10) (T := TX10) (N := 15) hx hb hts i_X10 hown hK hP 0 rfl rfl 10 (by decide) (hts (Cond.fieldLink RX10 28 "BrownClockModel" "isKept" "[Z") (List.mem_of_getElem? (i := 1) rfl)) (fun _ h9 => h9) rfl dX10_restore_16 ?_
    refine lv_iload_n hx hb dX10_restore_19 rfl (lv_at hl 1 rfl) ?_
    refine k_zald hx hb hK hP 4 rfl J rfl (by omega) (Nat.le_of_ble_eq_true rfl) (v := kf J) rfl dX10_restore_20 ?_
    refine lv_if_ne (tgt := 28) hx hb dX10_restore_21 (by decide) (fun c_5 => ?_) (fun c_5 => ?_)
    · skip
      refine lv_iconst (v := 0) hx hb dX10_restore_28 (by decide) ?_
      refine cVi (As := [.int 0]) (rest := []) ⟨hx, hb, hml, hown, hts⟩ (c_X10_refused0 l D ty b rf tn sp ac) (cwV 1 hts gX10_restore_X10_refused rfl rfl rfl (by decide +kernel) ⟨Nat.le_of_ble_eq_true rfl, Nat.le_of_ble_eq_true rfl⟩) hK hX hP hD hS hA (pk (bs := [[ob (b 0) 9 [.int rf, .ref (b 1), .int tn, .int sp, .ref (b 2), .ref (b 3), .ref (b 4), .ref (b 5), .int ac, .ref (b 6), .ref (b 7), .ref (b 8), .ref (b 9), .ref (b 10), .ref (b 11)]], [ia ty (b 3) 57 r], [la ty (b 8) 2 (tw x y)], [ia ty (b 6) 114 kk], [za ty (b 7) 2 kf], [la ty (b 11) 4 ks]]) (bsc := [[ob (b 0) 9 [.int rf, .ref (b 1), .int tn, .int sp, .ref (b 2), .ref (b 3), .ref (b 4), .ref (b 5), .int ac, .ref (b 6), .ref (b 7), .ref (b 8), .ref (b 9), .ref (b 10), .ref (b 11)]]]) (bsr := [[ia ty (b 3) 57 r], [la ty (b 8) 2 (tw x y)], [ia ty (b 6) 114 kk], [za ty (b 7) 2 kf], [la ty (b 11) 4 ks]]) [0] [1, 2, 3, 4, 5] 6 rfl (by decide +kernel) rfl rfl) (ci := 9) rfl 0 rfl rfl hl.1 rfl (Nat.le_of_ble_eq_true rfl) dX10_restore_29 ⟨Nat.le_of_ble_eq_true rfl, Nat.le_of_ble_eq_true rfl⟩ (fun r_7 u_6 h_8 H locs hP hD hS => ?_)
      have h_8 : r_7 = 0 := h_8
      subst h_8
      have hP : va_P D vwCl (fl [[ob (b 0) 9 [.int 0, .ref (b 1), .int tn, .int sp, .ref (b 2), .ref (b 3), .ref (b 4), .ref (b 5), .int ac, .ref (b 6), .ref (b 7), .ref (b 8), .ref (b 9), .ref (b 10), .ref (b 11)]], [ia ty (b 3) 57 r], [la ty (b 8) 2 (tw x y)], [ia ty (b 6) 114 kk], [za ty (b 7) 2 kf], [la ty (b 11) 4 ks]]) H := P_perm (po (bs := [[ob (b 0) 9 [.int 0, .ref (b 1), .int tn, .int sp, .ref (b 2), .ref (b 3), .ref (b 4), .ref (b 5), .int ac, .ref (b 6), .ref (b 7), .ref (b 8), .ref (b 9), .ref (b 10), .ref (b 11)]], [ia ty (b 3) 57 r], [la ty (b 8) 2 (tw x y)], [ia ty (b 6) 114 kk], [za ty (b 7) 2 kf], [la ty (b 11) 4 ks]]) [0, 1, 2, 3, 4, 5] 6 rfl (by decide +kernel) rfl) hP
      have hD : va_D A (fl [[ob (b 0) 9 [.int 0, .ref (b 1), .int tn, .int sp, .ref (b 2), .ref (b 3), .ref (b 4), .ref (b 5), .int ac, .ref (b 6), .ref (b 7), .ref (b 8), .ref (b 9), .ref (b 10), .ref (b 11)]], [ia ty (b 3) 57 r], [la ty (b 8) 2 (tw x y)], [ia ty (b 6) 114 kk], [za ty (b 7) 2 kf], [la ty (b 11) 4 ks]]) := D_perm (po (bs := [[ob (b 0) 9 [.int 0, .ref (b 1), .int tn, .int sp, .ref (b 2), .ref (b 3), .ref (b 4), .ref (b 5), .int ac, .ref (b 6), .ref (b 7), .ref (b 8), .ref (b 9), .ref (b 10), .ref (b 11)]], [ia ty (b 3) 57 r], [la ty (b 8) 2 (tw x y)], [ia ty (b 6) 114 kk], [za ty (b 7) 2 kf], [la ty (b 11) 4 ks]]) [0, 1, 2, 3, 4, 5] 6 rfl (by decide +kernel) rfl) hD
      refine lv_if_eq (tgt := 37) hx hb dX10_restore_32 (by decide) (fun c_9 => ?_) (fun c_9 => ?_)
      · skip
        refine lv_aload_n hx hb dX10_restore_37 rfl (lv_at hl 0 rfl) ?_
        refine va_get (D := D) (ci := 9) (v := .ref (b 6)) (C := RX10) (T := TX10) (N := 15) hx hb hts i_X10 hown hK hP 0 rfl rfl 9 (by decide) (hts (Cond.fieldLink RX10 25 "BrownClockModel" "kept" "[I") (List.mem_of_getElem? (i := 2) rfl)) (fun _ h9 => h9) rfl dX10_restore_38 ?_
        refine lv_bipush (v := 57) hx hb dX10_restore_41 (by decide) ?_
        refine lv_iload_n hx hb dX10_restore_43 rfl (lv_at hl 1 rfl) ?_
        refine k_imul (v := (nI (57 * J))) hx hb dX10_restore_44 (nI_mul (57) (J)) ?_
        refine lv_aload_n hx hb dX10_restore_45 rfl (lv_at hl 0 rfl) ?_
        refine va_get (D := D) (ci := 9) (v := .ref (b 3)) (C := RX10) (T := TX10) (N := 15) hx hb hts i_X10 hown hK hP 0 rfl rfl 5 (by decide) (hts (Cond.fieldLink RX10 16 "BrownClockModel" "now" "[I") (List.mem_of_getElem? (i := 3) rfl)) (fun _ h9 => h9) rfl dX10_restore_46 ?_
        refine lv_iconst (v := 0) hx hb dX10_restore_49 (by decide) ?_
        refine cSv (As := [.ref (b 6), .int (nI (57 * J)), .ref (b 3), .int 0]) (rest := []) ⟨hx, hb, hml, hown, hts⟩ (c_X10_copyPage l D ty (b 6) (b 3) 114 57 (57 * J) 0 kk r (by omega) (by omega) (by omega) (by omega)) (va_cwS 4 hts gX10_restore_X10_copyPage rfl rfl rfl (by decide +kernel) ⟨Nat.le_of_ble_eq_true rfl, Nat.le_of_ble_eq_true rfl⟩) hK hX hP hD hS hA (pk (bs := [[ob (b 0) 9 [.int 0, .ref (b 1), .int tn, .int sp, .ref (b 2), .ref (b 3), .ref (b 4), .ref (b 5), .int ac, .ref (b 6), .ref (b 7), .ref (b 8), .ref (b 9), .ref (b 10), .ref (b 11)]], [ia ty (b 3) 57 r], [la ty (b 8) 2 (tw x y)], [ia ty (b 6) 114 kk], [za ty (b 7) 2 kf], [la ty (b 11) 4 ks]]) (bsc := [[ia ty (b 6) 114 kk], [ia ty (b 3) 57 r]]) (bsr := [[ob (b 0) 9 [.int 0, .ref (b 1), .int tn, .int sp, .ref (b 2), .ref (b 3), .ref (b 4), .ref (b 5), .int ac, .ref (b 6), .ref (b 7), .ref (b 8), .ref (b 9), .ref (b 10), .ref (b 11)]], [la ty (b 8) 2 (tw x y)], [za ty (b 7) 2 kf], [la ty (b 11) 4 ks]]) [3, 1] [0, 2, 4, 5] 6 rfl (by decide +kernel) rfl rfl) rfl hl.1 rfl (Nat.le_of_ble_eq_true rfl) dX10_restore_50 ⟨Nat.le_of_ble_eq_true rfl, Nat.le_of_ble_eq_true rfl⟩ (fun u_10 h_12 H locs hP hD hS => ?_)
        have hP : va_P D vwCl (fl [[ob (b 0) 9 [.int 0, .ref (b 1), .int tn, .int sp, .ref (b 2), .ref (b 3), .ref (b 4), .ref (b 5), .int ac, .ref (b 6), .ref (b 7), .ref (b 8), .ref (b 9), .ref (b 10), .ref (b 11)]], [ia ty (b 3) 57 (va_cpy kk r (57 * J) 0 57)], [la ty (b 8) 2 (tw x y)], [ia ty (b 6) 114 kk], [za ty (b 7) 2 kf], [la ty (b 11) 4 ks]]) H := P_perm (po (bs := [[ia ty (b 6) 114 kk], [ia ty (b 3) 57 (va_cpy kk r (57 * J) 0 57)], [ob (b 0) 9 [.int 0, .ref (b 1), .int tn, .int sp, .ref (b 2), .ref (b 3), .ref (b 4), .ref (b 5), .int ac, .ref (b 6), .ref (b 7), .ref (b 8), .ref (b 9), .ref (b 10), .ref (b 11)]], [la ty (b 8) 2 (tw x y)], [za ty (b 7) 2 kf], [la ty (b 11) 4 ks]]) [2, 1, 3, 0, 4, 5] 6 rfl (by decide +kernel) rfl) hP
        have hD : va_D A (fl [[ob (b 0) 9 [.int 0, .ref (b 1), .int tn, .int sp, .ref (b 2), .ref (b 3), .ref (b 4), .ref (b 5), .int ac, .ref (b 6), .ref (b 7), .ref (b 8), .ref (b 9), .ref (b 10), .ref (b 11)]], [ia ty (b 3) 57 (va_cpy kk r (57 * J) 0 57)], [la ty (b 8) 2 (tw x y)], [ia ty (b 6) 114 kk], [za ty (b 7) 2 kf], [la ty (b 11) 4 ks]]) := D_perm (po (bs := [[ia ty (b 6) 114 kk], [ia ty (b 3) 57 (va_cpy kk r (57 * J) 0 57)], [ob (b 0) 9 [.int 0, .ref (b 1), .int tn, .int sp, .ref (b 2), .ref (b 3), .ref (b 4), .ref (b 5), .int ac, .ref (b 6), .ref (b 7), .ref (b 8), .ref (b 9), .ref (b 10), .ref (b 11)]], [la ty (b 8) 2 (tw x y)], [za ty (b 7) 2 kf], [la ty (b 11) 4 ks]]) [2, 1, 3, 0, 4, 5] 6 rfl (by decide +kernel) rfl) hD
        have hP : va_P D vwCl (fl [[ob (b 0) 9 [.int 0, .ref (b 1), .int tn, .int sp, .ref (b 2), .ref (b 3), .ref (b 4), .ref (b 5), .int ac, .ref (b 6), .ref (b 7), .ref (b 8), .ref (b 9), .ref (b 10), .ref (b 11)]], [ia ty (b 3) 57 rn], [la ty (b 8) 2 (tw x y)], [ia ty (b 6) 114 kk], [za ty (b 7) 2 kf], [la ty (b 11) 4 ks]]) H := P_at 1 (at_ia (fun k hk => cpyB kk r _ rn (by rw [hJ]; exact hd) k hk)) rfl rfl hP
        have hD : va_D A (fl [[ob (b 0) 9 [.int 0, .ref (b 1), .int tn, .int sp, .ref (b 2), .ref (b 3), .ref (b 4), .ref (b 5), .int ac, .ref (b 6), .ref (b 7), .ref (b 8), .ref (b 9), .ref (b 10), .ref (b 11)]], [ia ty (b 3) 57 rn], [la ty (b 8) 2 (tw x y)], [ia ty (b 6) 114 kk], [za ty (b 7) 2 kf], [la ty (b 11) 4 ks]]) := (D_same2 hD [(b 0), (b 3), (b 8), (b 6), (b 7), (b 11)] rfl rfl)
        refine lv_aload_n hx hb dX10_restore_53 rfl (lv_at hl 0 rfl) ?_
        refine va_get (D := D) (ci := 9) (v := .ref (b 8)) (C := RX10) (T := TX10) (N := 15) hx hb hts i_X10 hown hK hP 0 rfl rfl 11 (by decide) (hts (Cond.fieldLink RX10 32 "BrownClockModel" "sums" "[J") (List.mem_of_getElem? (i := 4) rfl)) (fun _ h9 => h9) rfl dX10_restore_54 ?_
        refine lv_iconst (v := 0) hx hb dX10_restore_57 (by decide) ?_
        refine lv_aload_n hx hb dX10_restore_58 rfl (lv_at hl 0 rfl) ?_
        refine va_get (D := D) (ci := 9) (v := .ref (b 11)) (C := RX10) (T := TX10) (N := 15) hx hb hts i_X10 hown hK hP 0 rfl rfl 14 (by decide) (hts (Cond.fieldLink RX10 42 "BrownClockModel" "keptSums" "[J") (List.mem_of_getElem? (i := 5) rfl)) (fun _ h9 => h9) rfl dX10_restore_59 ?_
        refine lv_iconst (v := 2) hx hb dX10_restore_62 (by decide) ?_
        refine lv_iload_n hx hb dX10_restore_63 rfl (lv_at hl 1 rfl) ?_
        refine k_imul (v := (nI (2 * J))) hx hb dX10_restore_64 (nI_mul (2) (J)) ?_
        refine k_lald hx hb hK hP 5 rfl (2 * J) rfl (by omega) (Nat.le_of_ble_eq_true rfl) (v := xn) (by rw [hJ]; exact hs1) dX10_restore_65 ?_
        refine k_last hx hb hK hP hD hS 2 rfl 0 rfl (by decide) (Nat.le_of_ble_eq_true rfl) dX10_restore_66 (fun H locs hP hD hS => ?_)
        have hP : va_P D vwCl (fl [[ob (b 0) 9 [.int 0, .ref (b 1), .int tn, .int sp, .ref (b 2), .ref (b 3), .ref (b 4), .ref (b 5), .int ac, .ref (b 6), .ref (b 7), .ref (b 8), .ref (b 9), .ref (b 10), .ref (b 11)]], [ia ty (b 3) 57 rn], [la ty (b 8) 2 (vp_updL (tw x y) 0 xn)], [ia ty (b 6) 114 kk], [za ty (b 7) 2 kf], [la ty (b 11) 4 ks]]) H := hP
        have hD : va_D A (fl [[ob (b 0) 9 [.int 0, .ref (b 1), .int tn, .int sp, .ref (b 2), .ref (b 3), .ref (b 4), .ref (b 5), .int ac, .ref (b 6), .ref (b 7), .ref (b 8), .ref (b 9), .ref (b 10), .ref (b 11)]], [ia ty (b 3) 57 rn], [la ty (b 8) 2 (vp_updL (tw x y) 0 xn)], [ia ty (b 6) 114 kk], [za ty (b 7) 2 kf], [la ty (b 11) 4 ks]]) := hD
        refine lv_aload_n hx hb dX10_restore_67 rfl (lv_at hl 0 rfl) ?_
        refine va_get (D := D) (ci := 9) (v := .ref (b 8)) (C := RX10) (T := TX10) (N := 15) hx hb hts i_X10 hown hK hP 0 rfl rfl 11 (by decide) (hts (Cond.fieldLink RX10 32 "BrownClockModel" "sums" "[J") (List.mem_of_getElem? (i := 4) rfl)) (fun _ h9 => h9) rfl dX10_restore_68 ?_
        refine lv_iconst (v := 1) hx hb dX10_restore_71 (by decide) ?_
        refine lv_aload_n hx hb dX10_restore_72 rfl (lv_at hl 0 rfl) ?_
        refine va_get (D := D) (ci := 9) (v := .ref (b 11)) (C := RX10) (T := TX10) (N := 15) hx hb hts i_X10 hown hK hP 0 rfl rfl 14 (by decide) (hts (Cond.fieldLink RX10 42 "BrownClockModel" "keptSums" "[J") (List.mem_of_getElem? (i := 5) rfl)) (fun _ h9 => h9) rfl dX10_restore_73 ?_
        refine lv_iconst (v := 2) hx hb dX10_restore_76 (by decide) ?_
        refine lv_iload_n hx hb dX10_restore_77 rfl (lv_at hl 1 rfl) ?_
        refine k_imul (v := (nI (2 * J))) hx hb dX10_restore_78 (nI_mul (2) (J)) ?_
        refine lv_iconst (v := 1) hx hb dX10_restore_79 (by decide) ?_
        refine k_iadd (v := (nI (2 * J + 1))) hx hb dX10_restore_80 (nI_add (2 * J) (1)) ?_
        refine k_lald hx hb hK hP 5 rfl (2 * J + 1) rfl (by omega) (Nat.le_of_ble_eq_true rfl) (v := yn) (by rw [hJ]; exact hs2) dX10_restore_81 ?_
        refine k_last hx hb hK hP hD hS 2 rfl 1 rfl (by decide) (Nat.le_of_ble_eq_true rfl) dX10_restore_82 (fun H locs hP hD hS => ?_)
        have hP : va_P D vwCl (fl [[ob (b 0) 9 [.int 0, .ref (b 1), .int tn, .int sp, .ref (b 2), .ref (b 3), .ref (b 4), .ref (b 5), .int ac, .ref (b 6), .ref (b 7), .ref (b 8), .ref (b 9), .ref (b 10), .ref (b 11)]], [ia ty (b 3) 57 rn], [la ty (b 8) 2 (vp_updL (vp_updL (tw x y) 0 xn) 1 yn)], [ia ty (b 6) 114 kk], [za ty (b 7) 2 kf], [la ty (b 11) 4 ks]]) H := hP
        have hD : va_D A (fl [[ob (b 0) 9 [.int 0, .ref (b 1), .int tn, .int sp, .ref (b 2), .ref (b 3), .ref (b 4), .ref (b 5), .int ac, .ref (b 6), .ref (b 7), .ref (b 8), .ref (b 9), .ref (b 10), .ref (b 11)]], [ia ty (b 3) 57 rn], [la ty (b 8) 2 (vp_updL (vp_updL (tw x y) 0 xn) 1 yn)], [ia ty (b 6) 114 kk], [za ty (b 7) 2 kf], [la ty (b 11) 4 ks]]) := hD
        refine lv_aload_n hx hb dX10_restore_83 rfl (lv_at hl 0 rfl) ?_
        refine lv_iconst (v := 0) hx hb dX10_restore_84 (by decide) ?_
        refine va_put (D := D) (ci := 9) (v := .int 0) (ty := .int) (C := RX10) (T := TX10) (N := 15) hx hb hts i_X10 tyX10 tyX10_ok nmX10 hown hK hP hD hS 0 rfl rfl 8 (by decide) (hts (Cond.fieldLink RX10 124 "BrownClockModel" "acts" "I") (List.mem_of_getElem? (i := 6) rfl)) (fun _ h9 => h9) rfl (by decide +kernel) rfl rfl (Nat.le_of_ble_eq_true rfl) dX10_restore_85 (fun H locs hP hD hS => ?_)
        have hP : va_P D vwCl (fl [[ob (b 0) 9 [.int 0, .ref (b 1), .int tn, .int sp, .ref (b 2), .ref (b 3), .ref (b 4), .ref (b 5), .int 0, .ref (b 6), .ref (b 7), .ref (b 8), .ref (b 9), .ref (b 10), .ref (b 11)]], [ia ty (b 3) 57 rn], [la ty (b 8) 2 (vp_updL (vp_updL (tw x y) 0 xn) 1 yn)], [ia ty (b 6) 114 kk], [za ty (b 7) 2 kf], [la ty (b 11) 4 ks]]) H := hP
        have hD : va_D A (fl [[ob (b 0) 9 [.int 0, .ref (b 1), .int tn, .int sp, .ref (b 2), .ref (b 3), .ref (b 4), .ref (b 5), .int 0, .ref (b 6), .ref (b 7), .ref (b 8), .ref (b 9), .ref (b 10), .ref (b 11)]], [ia ty (b 3) 57 rn], [la ty (b 8) 2 (vp_updL (vp_updL (tw x y) 0 xn) 1 yn)], [ia ty (b 6) 114 kk], [za ty (b 7) 2 kf], [la ty (b 11) 4 ks]]) := hD
        refine lv_aload_n hx hb dX10_restore_88 rfl (lv_at hl 0 rfl) ?_
        refine va_get (D := D) (ci := 9) (v := .ref (b 3)) (C := RX10) (T := TX10) (N := 15) hx hb hts i_X10 hown hK hP 0 rfl rfl 5 (by decide) (hts (Cond.fieldLink RX10 16 "BrownClockModel" "now" "[I") (List.mem_of_getElem? (i := 3) rfl)) (fun _ h9 => h9) rfl dX10_restore_89 ?_
        refine lv_iconst (v := 0) hx hb dX10_restore_92 (by decide) ?_
        refine k_iald hx hb hK hP 1 rfl 0 rfl (by decide) (Nat.le_of_ble_eq_true rfl) (v := rn 0) rfl dX10_restore_93 ?_
        have htw := tw_fold x y xn yn
        have hP : va_P D vwCl (fl [[ob (b 0) 9 [.int 0, .ref (b 1), .int tn, .int sp, .ref (b 2), .ref (b 3), .ref (b 4), .ref (b 5), .int 0, .ref (b 6), .ref (b 7), .ref (b 8), .ref (b 9), .ref (b 10), .ref (b 11)]], [ia ty (b 3) 57 rn], [la ty (b 8) 2 (tw xn yn)], [ia ty (b 6) 114 kk], [za ty (b 7) 2 kf], [la ty (b 11) 4 ks]]) H := P_at (e1 := la ty (b 8) 2 (vp_updL (vp_updL (tw x y) 0 xn) 1 yn)) (e2 := la ty (b 8) 2 (tw xn yn)) 2 (at_la htw) rfl rfl hP
        have hD : va_D A (fl [[ob (b 0) 9 [.int 0, .ref (b 1), .int tn, .int sp, .ref (b 2), .ref (b 3), .ref (b 4), .ref (b 5), .int 0, .ref (b 6), .ref (b 7), .ref (b 8), .ref (b 9), .ref (b 10), .ref (b 11)]], [ia ty (b 3) 57 rn], [la ty (b 8) 2 (tw xn yn)], [ia ty (b 6) 114 kk], [za ty (b 7) 2 kf], [la ty (b 11) 4 ks]]) := (D_same2 hD [(b 0), (b 3), (b 8), (b 6), (b 7), (b 11)] rfl rfl)
        have hPn := hP
        have hDn := hD
        have hSn := hS
        subst hJ
        have hP := hPn
        have hD := hDn
        have hS := hSn
        have hP : va_P D vwCl (fl [[ob (b 0) 9 [.int 0, .ref (b 1), .int tn, .int sp, .ref (b 2), .ref (b 3), .ref (b 4), .ref (b 5), .int 0, .ref (b 6), .ref (b 7), .ref (b 8), .ref (b 9), .ref (b 10), .ref (b 11)]], [ia ty (b 3) 57 rn], [la ty (b 8) 2 (tw xn yn)], [ia ty (b 6) 114 kk], [za ty (b 7) 2 kf], [la ty (b 11) 4 ks]]) H := hP
        have hD : va_D A (fl [[ob (b 0) 9 [.int 0, .ref (b 1), .int tn, .int sp, .ref (b 2), .ref (b 3), .ref (b 4), .ref (b 5), .int 0, .ref (b 6), .ref (b 7), .ref (b 8), .ref (b 9), .ref (b 10), .ref (b 11)]], [ia ty (b 3) 57 rn], [la ty (b 8) 2 (tw xn yn)], [ia ty (b 6) 114 kk], [za ty (b 7) 2 kf], [la ty (b 11) 4 ks]]) := hD
        exact end_i (bs' := (fun (_ : Unit) => [[ob (b 0) 9 [.int 0, .ref (b 1), .int tn, .int sp, .ref (b 2), .ref (b 3), .ref (b 4), .ref (b 5), .int 0, .ref (b 6), .ref (b 7), .ref (b 8), .ref (b 9), .ref (b 10), .ref (b 11)]], [ia ty (b 3) 57 rn], [la ty (b 8) 2 (tw xn yn)], [ia ty (b 6) 114 kk], [za ty (b 7) 2 kf], [la ty (b 11) 4 ks]])) () hx hb hr hlocks hP hD hS rfl (Nat.le_of_ble_eq_true rfl) (Nat.le_of_ble_eq_true rfl) dX10_restore_94
      · exact absurd (by decide) c_9
    · first | exact absurd c_5 (by rw [hJ]; exact hc1) | exact absurd (by rw [hJ]; exact hc1) c_5
  · first | exact absurd c_4 (invI_y hc0 (by decide +kernel) (by decide +kernel)) | exact absurd (invI_y hc0 (by decide +kernel) (by decide +kernel)) c_4
set_option maxHeartbeats 4000000 in
set_option maxRecDepth 100000 in
theorem c_X10_restore_n0 (l : Launch) (D : va_G) (ty : Nat → ClassId) (b : Nat → Nat) (rf tn sp ac : Int32) (i9 : Int32) (hc0 : ¬ (inI i9 2)) : CTi l yX10_restore wsX10_restore ({ frames := 1, cells := 0, slots := 0, locals := 25 }) D ty [.ref (b 0), .int i9] [[ob (b 0) 9 [.int rf, .ref (b 1), .int tn, .int sp, .ref (b 2), .ref (b 3), .ref (b 4), .ref (b 5), .int ac, .ref (b 6), .ref (b 7), .ref (b 8), .ref (b 9), .ref (b 10), .ref (b 11)]]] (fun (RET : Int32) (_ : Unit) => RET = 0) (fun (_ : Unit) => [[ob (b 0) 9 [.int 1, .ref (b 1), .int tn, .int sp, .ref (b 2), .ref (b 3), .ref (b 4), .ref (b 5), .int ac, .ref (b 6), .ref (b 7), .ref (b 8), .ref (b 9), .ref (b 10), .ref (b 11)]]]) := by
  refine CTi_of cX10_restore 2 (some .int) (by decide) rfl (Nat.le_of_ble_eq_true rfl) ?_
  intro p e s m args below meth c A hx hb hr hml hown hlocks hin hts hA hX hK hP hD ls hl
  have hown : s.vm.findClass RX10 = some m.cls := hown
  have hS : va_S A s.heap s.heap [] := va_S.rf
  have hl : lv_has ls 2 [(0, .ref (b 0)), (1, .int i9)] := hl
  refine lv_aload_n hx hb dX10_restore_0 rfl (lv_at hl 0 rfl) ?_
  refine lv_iload_n hx hb dX10_restore_1 rfl (lv_at hl 1 rfl) ?_
  refine lv_i2l (v := (Int32.toInt64 i9)) hx hb dX10_restore_2 rfl ?_
  refine lv_lconst (v := 0) hx hb dX10_restore_3 (by decide) ?_
  refine lv_lconst (v := 1) hx hb dX10_restore_4 (by decide) ?_
  refine cSi (As := [.long (Int32.toInt64 i9), .long 0, .long 1]) (rest := [.ref (b 0)]) ⟨hx, hb, hml, hown, hts⟩ (c_X10_in l D ty (Int32.toInt64 i9) 0 1) (va_cwS 3 hts gX10_restore_X10_in rfl rfl rfl (by decide +kernel) ⟨Nat.le_of_ble_eq_true rfl, Nat.le_of_ble_eq_true rfl⟩) hK hX hP hD hS hA (pk (bs := [[ob (b 0) 9 [.int rf, .ref (b 1), .int tn, .int sp, .ref (b 2), .ref (b 3), .ref (b 4), .ref (b 5), .int ac, .ref (b 6), .ref (b 7), .ref (b 8), .ref (b 9), .ref (b 10), .ref (b 11)]]]) (bsc := []) (bsr := [[ob (b 0) 9 [.int rf, .ref (b 1), .int tn, .int sp, .ref (b 2), .ref (b 3), .ref (b 4), .ref (b 5), .int ac, .ref (b 6), .ref (b 7), .ref (b 8), .ref (b 9), .ref (b 10), .ref (b 11)]]]) [] [0] 1 rfl (by decide +kernel) rfl rfl) rfl hl.1 rfl (Nat.le_of_ble_eq_true rfl) dX10_restore_5 ⟨Nat.le_of_ble_eq_true rfl, Nat.le_of_ble_eq_true rfl⟩ (fun r_2 u_1 h_3 H locs hP hD hS => ?_)
  have h_3 : r_2 = (inv (Int32.toInt64 i9) 0 1) := h_3
  subst h_3
  have hP : va_P D vwCl (fl [[ob (b 0) 9 [.int rf, .ref (b 1), .int tn, .int sp, .ref (b 2), .ref (b 3), .ref (b 4), .ref (b 5), .int ac, .ref (b 6), .ref (b 7), .ref (b 8), .ref (b 9), .ref (b 10), .ref (b 11)]]]) H := P_perm (po (bs := [[ob (b 0) 9 [.int rf, .ref (b 1), .int tn, .int sp, .ref (b 2), .ref (b 3), .ref (b 4), .ref (b 5), .int ac, .ref (b 6), .ref (b 7), .ref (b 8), .ref (b 9), .ref (b 10), .ref (b 11)]]]) [0] 1 rfl (by decide +kernel) rfl) hP
  have hD : va_D A (fl [[ob (b 0) 9 [.int rf, .ref (b 1), .int tn, .int sp, .ref (b 2), .ref (b 3), .ref (b 4), .ref (b 5), .int ac, .ref (b 6), .ref (b 7), .ref (b 8), .ref (b 9), .ref (b 10), .ref (b 11)]]]) := D_perm (po (bs := [[ob (b 0) 9 [.int rf, .ref (b 1), .int tn, .int sp, .ref (b 2), .ref (b 3), .ref (b 4), .ref (b 5), .int ac, .ref (b 6), .ref (b 7), .ref (b 8), .ref (b 9), .ref (b 10), .ref (b 11)]]]) [0] 1 rfl (by decide +kernel) rfl) hD
  refine lv_if_ne (tgt := 15) hx hb dX10_restore_8 (by decide) (fun c_4 => ?_) (fun c_4 => ?_)
  · first | exact absurd c_4 (invI_n hc0 (by decide +kernel) (by decide +kernel)) | exact absurd (invI_n hc0 (by decide +kernel) (by decide +kernel)) c_4
  · skip
    refine lv_iconst (v := 1) hx hb dX10_restore_11 (by decide) ?_
    refine lv_goto (tgt := 29) hx hb dX10_restore_12 (by decide) ?_
    refine cVi (As := [.int 1]) (rest := []) ⟨hx, hb, hml, hown, hts⟩ (c_X10_refused1 l D ty b rf tn sp ac 1 (by decide)) (cwV 1 hts gX10_restore_X10_refused rfl rfl rfl (by decide +kernel) ⟨Nat.le_of_ble_eq_true rfl, Nat.le_of_ble_eq_true rfl⟩) hK hX hP hD hS hA (pk (bs := [[ob (b 0) 9 [.int rf, .ref (b 1), .int tn, .int sp, .ref (b 2), .ref (b 3), .ref (b 4), .ref (b 5), .int ac, .ref (b 6), .ref (b 7), .ref (b 8), .ref (b 9), .ref (b 10), .ref (b 11)]]]) (bsc := [[ob (b 0) 9 [.int rf, .ref (b 1), .int tn, .int sp, .ref (b 2), .ref (b 3), .ref (b 4), .ref (b 5), .int ac, .ref (b 6), .ref (b 7), .ref (b 8), .ref (b 9), .ref (b 10), .ref (b 11)]]]) (bsr := []) [0] [] 1 rfl (by decide +kernel) rfl rfl) (ci := 9) rfl 0 rfl rfl hl.1 rfl (Nat.le_of_ble_eq_true rfl) dX10_restore_29 ⟨Nat.le_of_ble_eq_true rfl, Nat.le_of_ble_eq_true rfl⟩ (fun r_6 u_5 h_7 H locs hP hD hS => ?_)
    have h_7 : r_6 = 1 := h_7
    subst h_7
    have hP : va_P D vwCl (fl [[ob (b 0) 9 [.int 1, .ref (b 1), .int tn, .int sp, .ref (b 2), .ref (b 3), .ref (b 4), .ref (b 5), .int ac, .ref (b 6), .ref (b 7), .ref (b 8), .ref (b 9), .ref (b 10), .ref (b 11)]]]) H := P_perm (po (bs := [[ob (b 0) 9 [.int 1, .ref (b 1), .int tn, .int sp, .ref (b 2), .ref (b 3), .ref (b 4), .ref (b 5), .int ac, .ref (b 6), .ref (b 7), .ref (b 8), .ref (b 9), .ref (b 10), .ref (b 11)]]]) [0] 1 rfl (by decide +kernel) rfl) hP
    have hD : va_D A (fl [[ob (b 0) 9 [.int 1, .ref (b 1), .int tn, .int sp, .ref (b 2), .ref (b 3), .ref (b 4), .ref (b 5), .int ac, .ref (b 6), .ref (b 7), .ref (b 8), .ref (b 9), .ref (b 10), .ref (b 11)]]]) := D_perm (po (bs := [[ob (b 0) 9 [.int 1, .ref (b 1), .int tn, .int sp, .ref (b 2), .ref (b 3), .ref (b 4), .ref (b 5), .int ac, .ref (b 6), .ref (b 7), .ref (b 8), .ref (b 9), .ref (b 10), .ref (b 11)]]]) [0] 1 rfl (by decide +kernel) rfl) hD
    refine lv_if_eq (tgt := 37) hx hb dX10_restore_32 (by decide) (fun c_8 => ?_) (fun c_8 => ?_)
    · exact absurd c_8 (by decide)
    · skip
      refine lv_iconst (v := 0) hx hb dX10_restore_35 (by decide) ?_
      have hP : va_P D vwCl (fl [[ob (b 0) 9 [.int 1, .ref (b 1), .int tn, .int sp, .ref (b 2), .ref (b 3), .ref (b 4), .ref (b 5), .int ac, .ref (b 6), .ref (b 7), .ref (b 8), .ref (b 9), .ref (b 10), .ref (b 11)]]]) H := hP
      have hD : va_D A (fl [[ob (b 0) 9 [.int 1, .ref (b 1), .int tn, .int sp, .ref (b 2), .ref (b 3), .ref (b 4), .ref (b 5), .int ac, .ref (b 6), .ref (b 7), .ref (b 8), .ref (b 9), .ref (b 10), .ref (b 11)]]]) := hD
      exact end_i (bs' := (fun (_ : Unit) => [[ob (b 0) 9 [.int 1, .ref (b 1), .int tn, .int sp, .ref (b 2), .ref (b 3), .ref (b 4), .ref (b 5), .int ac, .ref (b 6), .ref (b 7), .ref (b 8), .ref (b 9), .ref (b 10), .ref (b 11)]]])) () hx hb hr hlocks hP hD hS (by first | rfl | decide | simp [c_4, c_8]) (Nat.le_of_ble_eq_true rfl) (Nat.le_of_ble_eq_true rfl) dX10_restore_36
set_option maxHeartbeats 4000000 in
set_option maxRecDepth 100000 in
theorem c_X10_restore_n1 (l : Launch) (D : va_G) (ty : Nat → ClassId) (b : Nat → Nat) (rf tn sp ac : Int32) (kf : Nat → Int32) (i9 : Int32) (hc0 : inI i9 2) (hc1 : ¬ (¬ kf i9.toNatClampNeg = 0)) : CTi l yX10_restore wsX10_restore ({ frames := 1, cells := 0, slots := 0, locals := 25 }) D ty [.ref (b 0), .int i9] [[ob (b 0) 9 [.int rf, .ref (b 1), .int tn, .int sp, .ref (b 2), .ref (b 3), .ref (b 4), .ref (b 5), .int ac, .ref (b 6), .ref (b 7), .ref (b 8), .ref (b 9), .ref (b 10), .ref (b 11)]], [za ty (b 7) 2 kf]] (fun (RET : Int32) (_ : Unit) => RET = 0) (fun (_ : Unit) => [[ob (b 0) 9 [.int 2, .ref (b 1), .int tn, .int sp, .ref (b 2), .ref (b 3), .ref (b 4), .ref (b 5), .int ac, .ref (b 6), .ref (b 7), .ref (b 8), .ref (b 9), .ref (b 10), .ref (b 11)]], [za ty (b 7) 2 kf]]) := by
  refine CTi_of cX10_restore 2 (some .int) (by decide) rfl (Nat.le_of_ble_eq_true rfl) ?_
  intro p e s m args below meth c A hx hb hr hml hown hlocks hin hts hA hX hK hP hD ls hl
  have hown : s.vm.findClass RX10 = some m.cls := hown
  have hS : va_S A s.heap s.heap [] := va_S.rf
  have i_X10 : ∀ z ∈ wsX100, z ∈ wsX10_restore := fun z h => List.mem_cons_of_mem _ (List.mem_append_right _ h)
  have hl : lv_has ls 2 [(0, .ref (b 0)), (1, .int i9)] := hl
  refine lv_aload_n hx hb dX10_restore_0 rfl (lv_at hl 0 rfl) ?_
  refine lv_iload_n hx hb dX10_restore_1 rfl (lv_at hl 1 rfl) ?_
  refine lv_i2l (v := (Int32.toInt64 i9)) hx hb dX10_restore_2 rfl ?_
  refine lv_lconst (v := 0) hx hb dX10_restore_3 (by decide) ?_
  refine lv_lconst (v := 1) hx hb dX10_restore_4 (by decide) ?_
  refine cSi (As := [.long (Int32.toInt64 i9), .long 0, .long 1]) (rest := [.ref (b 0)]) ⟨hx, hb, hml, hown, hts⟩ (c_X10_in l D ty (Int32.toInt64 i9) 0 1) (va_cwS 3 hts gX10_restore_X10_in rfl rfl rfl (by decide +kernel) ⟨Nat.le_of_ble_eq_true rfl, Nat.le_of_ble_eq_true rfl⟩) hK hX hP hD hS hA (pk (bs := [[ob (b 0) 9 [.int rf, .ref (b 1), .int tn, .int sp, .ref (b 2), .ref (b 3), .ref (b 4), .ref (b 5), .int ac, .ref (b 6), .ref (b 7), .ref (b 8), .ref (b 9), .ref (b 10), .ref (b 11)]], [za ty (b 7) 2 kf]]) (bsc := []) (bsr := [[ob (b 0) 9 [.int rf, .ref (b 1), .int tn, .int sp, .ref (b 2), .ref (b 3), .ref (b 4), .ref (b 5), .int ac, .ref (b 6), .ref (b 7), .ref (b 8), .ref (b 9), .ref (b 10), .ref (b 11)]], [za ty (b 7) 2 kf]]) [] [0, 1] 2 rfl (by decide +kernel) rfl rfl) rfl hl.1 rfl (Nat.le_of_ble_eq_true rfl) dX10_restore_5 ⟨Nat.le_of_ble_eq_true rfl, Nat.le_of_ble_eq_true rfl⟩ (fun r_2 u_1 h_3 H locs hP hD hS => ?_)
  have h_3 : r_2 = (inv (Int32.toInt64 i9) 0 1) := h_3
  subst h_3
  have hP : va_P D vwCl (fl [[ob (b 0) 9 [.int rf, .ref (b 1), .int tn, .int sp, .ref (b 2), .ref (b 3), .ref (b 4), .ref (b 5), .int ac, .ref (b 6), .ref (b 7), .ref (b 8), .ref (b 9), .ref (b 10), .ref (b 11)]], [za ty (b 7) 2 kf]]) H := P_perm (po (bs := [[ob (b 0) 9 [.int rf, .ref (b 1), .int tn, .int sp, .ref (b 2), .ref (b 3), .ref (b 4), .ref (b 5), .int ac, .ref (b 6), .ref (b 7), .ref (b 8), .ref (b 9), .ref (b 10), .ref (b 11)]], [za ty (b 7) 2 kf]]) [0, 1] 2 rfl (by decide +kernel) rfl) hP
  have hD : va_D A (fl [[ob (b 0) 9 [.int rf, .ref (b 1), .int tn, .int sp, .ref (b 2), .ref (b 3), .ref (b 4), .ref (b 5), .int ac, .ref (b 6), .ref (b 7), .ref (b 8), .ref (b 9), .ref (b 10), .ref (b 11)]], [za ty (b 7) 2 kf]]) := D_perm (po (bs := [[ob (b 0) 9 [.int rf, .ref (b 1), .int tn, .int sp, .ref (b 2), .ref (b 3), .ref (b 4), .ref (b 5), .int ac, .ref (b 6), .ref (b 7), .ref (b 8), .ref (b 9), .ref (b 10), .ref (b 11)]], [za ty (b 7) 2 kf]]) [0, 1] 2 rfl (by decide +kernel) rfl) hD
  refine lv_if_ne (tgt := 15) hx hb dX10_restore_8 (by decide) (fun c_4 => ?_) (fun c_4 => ?_)
  · skip
    obtain ⟨J, hJ⟩ : ∃ z, z = i9.toNatClampNeg := ⟨_, rfl⟩
    have nJ : i9 = nI J := by rw [hJ]; exact nI_self hc0.1
    have lJ : J < 2 := by rw [hJ]; exact nI_ltn hc0.1 (by decide) (show i9 < nI 2 from hc0.2)
    have hl : lv_has ls 2 [(0, .ref (b 0)), (1, .int (nI J))] := by rw [← nJ]; exact hl
    refine lv_aload_n hx hb dX10_restore_15 rfl (lv_at hl 0 rfl) ?_
    refine va_get (D := D) (ci := 9) (v := .ref (b 7)) (C := RX10) (T := TX10) (N := 15) hx hb hts i_X10 hown hK hP 0 rfl rfl 10 (by decide) (hts (Cond.fieldLink RX10 28 "BrownClockModel" "isKept" "[Z") (List.mem_of_getElem? (i := 1) rfl)) (fun _ h9 => h9) rfl dX10_restore_16 ?_
    refine lv_iload_n hx hb dX10_restore_19 rfl (lv_at hl 1 rfl) ?_
    refine k_zald hx hb hK hP 1 rfl J rfl (by omega) (Nat.le_of_ble_eq_true rfl) (v := kf J) rfl dX10_restore_20 ?_
    refine lv_if_ne (tgt := 28) hx hb dX10_restore_21 (by decide) (fun c_5 => ?_) (fun c_5 => ?_)
    · first | exact absurd c_5 (by rw [hJ]; exact Classical.not_not.mp hc1) | exact absurd (by rw [hJ]; exact Classical.not_not.mp hc1) c_5
    · skip
      refine lv_iconst (v := 2) hx hb dX10_restore_24 (by decide) ?_
      refine lv_goto (tgt := 29) hx hb dX10_restore_25 (by decide) ?_
      refine cVi (As := [.int 2]) (rest := []) ⟨hx, hb, hml, hown, hts⟩ (c_X10_refused1 l D ty b rf tn sp ac 2 (by decide)) (cwV 1 hts gX10_restore_X10_refused rfl rfl rfl (by decide +kernel) ⟨Nat.le_of_ble_eq_true rfl, Nat.le_of_ble_eq_true rfl⟩) hK hX hP hD hS hA (pk (bs := [[ob (b 0) 9 [.int rf, .ref (b 1), .int tn, .int sp, .ref (b 2), .ref (b 3), .ref (b 4), .ref (b 5), .int ac, .ref (b 6), .ref (b 7), .ref (b 8), .ref (b 9), .ref (b 10), .ref (b 11)]], [za ty (b 7) 2 kf]]) (bsc := [[ob (b 0) 9 [.int rf, .ref (b 1), .int tn, .int sp, .ref (b 2), .ref (b 3), .ref (b 4), .ref (b 5), .int ac, .ref (b 6), .ref (b 7), .ref (b 8), .ref (b 9), .ref (b 10), .ref (b 11)]]]) (bsr := [[za ty (b 7) 2 kf]]) [0] [1] 2 rfl (by decide +kernel) rfl rfl) (ci := 9) rfl 0 rfl rfl hl.1 rfl (Nat.le_of_ble_eq_true rfl) dX10_restore_29 ⟨Nat.le_of_ble_eq_true rfl, Nat.le_of_ble_eq_true rfl⟩ (fun r_7 u_6 h_8 H locs hP hD hS => ?_)
      have h_8 : r_7 = 1 := h_8
      subst h_8
      have hP : va_P D vwCl (fl [[ob (b 0) 9 [.int 2, .ref (b 1), .int tn, .int sp, .ref (b 2), .ref (b 3), .ref (b 4), .ref (b 5), .int ac, .ref (b 6), .ref (b 7), .ref (b 8), .ref (b 9), .ref (b 10), .ref (b 11)]], [za ty (b 7) 2 kf]]) H := P_perm (po (bs := [[ob (b 0) 9 [.int 2, .ref (b 1), .int tn, .int sp, .ref (b 2), .ref (b 3), .ref (b 4), .ref (b 5), .int ac, .ref (b 6), .ref (b 7), .ref (b 8), .ref (b 9), .ref (b 10), .ref (b 11)]], [za ty (b 7) 2 kf]]) [0, 1] 2 rfl (by decide +kernel) rfl) hP
      have hD : va_D A (fl [[ob (b 0) 9 [.int 2, .ref (b 1), .int tn, .int sp, .ref (b 2), .ref (b 3), .ref (b 4), .ref (b 5), .int ac, .ref (b 6), .ref (b 7), .ref (b 8), .ref (b 9), .ref (b 10), .ref (b 11)]], [za ty (b 7) 2 kf]]) := D_perm (po (bs := [[ob (b 0) 9 [.int 2, .ref (b 1), .int tn, .int sp, .ref (b 2), .ref (b 3), .ref (b 4), .ref (b 5), .int ac, .ref (b 6), .ref (b 7), .ref (b 8), .ref (b 9), .ref (b 10), .ref (b 11)]], [za ty (b 7) 2 kf]]) [0, 1] 2 rfl (by decide +kernel) rfl) hD
      refine lv_if_eq (tgt := 37) hx hb dX10_restore_32 (by decide) (fun c_9 => ?_) (fun c_9 => ?_)
      · exact absurd c_9 (by decide)
      · skip
        refine lv_iconst (v := 0) hx hb dX10_restore_35 (by decide) ?_
        have hPn := hP
        have hDn := hD
        have hSn := hS
        subst hJ
        have hP := hPn
        have hD := hDn
        have hS := hSn
        have hP : va_P D vwCl (fl [[ob (b 0) 9 [.int 2, .ref (b 1), .int tn, .int sp, .ref (b 2), .ref (b 3), .ref (b 4), .ref (b 5), .int ac, .ref (b 6), .ref (b 7), .ref (b 8), .ref (b 9), .ref (b 10), .ref (b 11)]], [za ty (b 7) 2 kf]]) H := hP
        have hD : va_D A (fl [[ob (b 0) 9 [.int 2, .ref (b 1), .int tn, .int sp, .ref (b 2), .ref (b 3), .ref (b 4), .ref (b 5), .int ac, .ref (b 6), .ref (b 7), .ref (b 8), .ref (b 9), .ref (b 10), .ref (b 11)]], [za ty (b 7) 2 kf]]) := hD
        exact end_i (bs' := (fun (_ : Unit) => [[ob (b 0) 9 [.int 2, .ref (b 1), .int tn, .int sp, .ref (b 2), .ref (b 3), .ref (b 4), .ref (b 5), .int ac, .ref (b 6), .ref (b 7), .ref (b 8), .ref (b 9), .ref (b 10), .ref (b 11)]], [za ty (b 7) 2 kf]])) () hx hb hr hlocks hP hD hS (by first | rfl | decide | simp [c_4, c_5, c_9]) (Nat.le_of_ble_eq_true rfl) (Nat.le_of_ble_eq_true rfl) dX10_restore_36
  · first | exact absurd c_4 (invI_y hc0 (by decide +kernel) (by decide +kernel)) | exact absurd (invI_y hc0 (by decide +kernel) (by decide +kernel)) c_4
