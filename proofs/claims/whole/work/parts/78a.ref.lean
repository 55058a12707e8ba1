set_option maxHeartbeats 4000000 in
set_option maxRecDepth 100000 in
theorem c_X10_note (l : Launch) (D : va_G) (ty : Nat → ClassId) (b : Nat → Nat) (rf tn sp : Int32) (cn : Nat) (r : Nat → Int32) (x y : Int64) (dd : Nat → Int32) (ds : Nat → Int64) (hc : cn ≤ 14) : CTv l yX10_note wsX10_note ({ frames := 1, cells := 0, slots := 0, locals := 24 }) D ty [.ref (b 0)] [[ob (b 0) 9 [.int rf, .ref (b 1), .int tn, .int sp, .ref (b 2), .ref (b 3), .ref (b 4), .ref (b 5), .int (nI cn), .ref (b 6), .ref (b 7), .ref (b 8), .ref (b 9), .ref (b 10), .ref (b 11)]], [ia ty (b 3) 57 r], [la ty (b 8) 2 (tw x y)], [ia ty (b 5) 798 dd], [la ty (b 10) 28 ds]] (fun (_ : Unit) => True) (fun (_ : Unit) => [[ob (b 0) 9 [.int rf, .ref (b 1), .int tn, .int sp, .ref (b 2), .ref (b 3), .ref (b 4), .ref (b 5), .int (nI (remC cn)), .ref (b 6), .ref (b 7), .ref (b 8), .ref (b 9), .ref (b 10), .ref (b 11)]], [ia ty (b 3) 57 r], [la ty (b 8) 2 (tw x y)], [ia ty (b 5) 798 (noteD cn dd r)], [la ty (b 10) 28 (noteS cn ds x y)]]) := by
  refine CTv_of cX10_note 2 none (by decide) rfl (Nat.le_of_ble_eq_true rfl) ?_
  intro p e s m args below meth c A hx hb hr hml hown hlocks hin hts hA hX hK hP hD ls hl
  have hown : s.vm.findClass RX10 = some m.cls := hown
  have hS : va_S A s.heap s.heap [] := va_S.rf
  have i_X10 : ∀ z ∈ wsX100, z ∈ wsX10_note := fun z h => List.mem_cons_of_mem _ (List.mem_append_right _ h)
  have hl : lv_has ls 2 [(0, .ref (b 0))] := hl
  generalize hQg : MQ below (va_Qv (fun (_ : Unit) => True) (PostW D (fun (_ : Unit) => [[ob (b 0) 9 [.int rf, .ref (b 1), .int tn, .int sp, .ref (b 2), .ref (b 3), .ref (b 4), .ref (b 5), .int (nI (remC cn)), .ref (b 6), .ref (b 7), .ref (b 8), .ref (b 9), .ref (b 10), .ref (b 11)]], [ia ty (b 3) 57 r], [la ty (b 8) 2 (tw x y)], [ia ty (b 5) 798 (noteD cn dd r)], [la ty (b 10) 28 (noteS cn ds x y)]]) A) A) args s 0 0 A = Qg
  rcases Nat.lt_or_ge cn 14 with h14 | h14
  · skip
    refine lv_aload_n hx hb dX10_note_0 rfl (lv_at hl 0 rfl) ?_
    refine va_get (D := D) (ci := 9) (v := .int (nI cn)) (C := RX10) (T := TX10) (N := 15) hx hb hts i_X10 hown hK hP 0 rfl rfl 8 (by decide) (hts (Cond.fieldLink RX10 124 "BrownClockModel" "acts" "I") (List.mem_of_getElem? (i := 1) rfl)) (fun _ h9 => h9) rfl dX10_note_1 ?_
    refine lv_bipush (v := 14) hx hb dX10_note_4 (by decide) ?_
    refine lv_icmp_ne (tgt := 77) hx hb dX10_note_6 (by decide) (fun c_1 => ?_) (fun c_1 => ?_)
    · skip
      refine lv_aload_n hx hb dX10_note_77 rfl (lv_at hl 0 rfl) ?_
      refine va_get (D := D) (ci := 9) (v := .ref (b 3)) (C := RX10) (T := TX10) (N := 15) hx hb hts i_X10 hown hK hP 0 rfl rfl 5 (by decide) (hts (Cond.fieldLink RX10 16 "BrownClockModel" "now" "[I") (List.mem_of_getElem? (i := 4) rfl)) (fun _ h9 => h9) rfl dX10_note_78 ?_
      refine lv_iconst (v := 0) hx hb dX10_note_81 (by decide) ?_
      refine lv_aload_n hx hb dX10_note_82 rfl (lv_at hl 0 rfl) ?_
      refine va_get (D := D) (ci := 9) (v := .ref (b 5)) (C := RX10) (T := TX10) (N := 15) hx hb hts i_X10 hown hK hP 0 rfl rfl 7 (by decide) (hts (Cond.fieldLink RX10 22 "BrownClockModel" "diary" "[I") (List.mem_of_getElem? (i := 2) rfl)) (fun _ h9 => h9) rfl dX10_note_83 ?_
      refine lv_bipush (v := 57) hx hb dX10_note_86 (by decide) ?_
      refine lv_aload_n hx hb dX10_note_88 rfl (lv_at hl 0 rfl) ?_
      refine va_get (D := D) (ci := 9) (v := .int (nI cn)) (C := RX10) (T := TX10) (N := 15) hx hb hts i_X10 hown hK hP 0 rfl rfl 8 (by decide) (hts (Cond.fieldLink RX10 124 "BrownClockModel" "acts" "I") (List.mem_of_getElem? (i := 1) rfl)) (fun _ h9 => h9) rfl dX10_note_89 ?_
      refine k_imul (v := (nI (57 * cn))) hx hb dX10_note_92 (nI_mul (57) (cn)) ?_
      refine cSv (As := [.ref (b 3), .int 0, .ref (b 5), .int (nI (57 * cn))]) (rest := []) ⟨hx, hb, hml, hown, hts⟩ (c_X10_copyPage l D ty (b 3) (b 5) 57 798 0 (57 * cn) r dd (by omega) (by omega) (by omega) (by omega)) (va_cwS 4 hts gX10_note_X10_copyPage rfl rfl rfl (by decide +kernel) ⟨Nat.le_of_ble_eq_true rfl, Nat.le_of_ble_eq_true rfl⟩) hK hX hP hD hS hA (pk (bs := [[ob (b 0) 9 [.int rf, .ref (b 1), .int tn, .int sp, .ref (b 2), .ref (b 3), .ref (b 4), .ref (b 5), .int (nI cn), .ref (b 6), .ref (b 7), .ref (b 8), .ref (b 9), .ref (b 10), .ref (b 11)]], [ia ty (b 3) 57 r], [la ty (b 8) 2 (tw x y)], [ia ty (b 5) 798 dd], [la ty (b 10) 28 ds]]) (bsc := [[ia ty (b 3) 57 r], [ia ty (b 5) 798 dd]]) (bsr := [[ob (b 0) 9 [.int rf, .ref (b 1), .int tn, .int sp, .ref (b 2), .ref (b 3), .ref (b 4), .ref (b 5), .int (nI cn), .ref (b 6), .ref (b 7), .ref (b 8), .ref (b 9), .ref (b 10), .ref (b 11)]], [la ty (b 8) 2 (tw x y)], [la ty (b 10) 28 ds]]) [1, 3] [0, 2, 4] 5 rfl (by decide +kernel) rfl rfl) rfl hl.1 rfl (Nat.le_of_ble_eq_true rfl) dX10_note_93 ⟨Nat.le_of_ble_eq_true rfl, Nat.le_of_ble_eq_true rfl⟩ (fun u_2 h_4 H locs hP hD hS => ?_)
      have hP : va_P D vwCl (fl [[ob (b 0) 9 [.int rf, .ref (b 1), .int tn, .int sp, .ref (b 2), .ref (b 3), .ref (b 4), .ref (b 5), .int (nI cn), .ref (b 6), .ref (b 7), .ref (b 8), .ref (b 9), .ref (b 10), .ref (b 11)]], [ia ty (b 3) 57 r], [la ty (b 8) 2 (tw x y)], [ia ty (b 5) 798 (va_cpy r dd 0 (57 * cn) 57)], [la ty (b 10) 28 ds]]) H := P_perm (po (bs := [[ia ty (b 3) 57 r], [ia ty (b 5) 798 (va_cpy r dd 0 (57 * cn) 57)], [ob (b 0) 9 [.int rf, .ref (b 1), .int tn, .int sp, .ref (b 2), .ref (b 3), .ref (b 4), .ref (b 5), .int (nI cn), .ref (b 6), .ref (b 7), .ref (b 8), .ref (b 9), .ref (b 10), .ref (b 11)]], [la ty (b 8) 2 (tw x y)], [la ty (b 10) 28 ds]]) [2, 0, 3, 1, 4] 5 rfl (by decide +kernel) rfl) hP
      have hD : va_D A (fl [[ob (b 0) 9 [.int rf, .ref (b 1), .int tn, .int sp, .ref (b 2), .ref (b 3), .ref (b 4), .ref (b 5), .int (nI cn), .ref (b 6), .ref (b 7), .ref (b 8), .ref (b 9), .ref (b 10), .ref (b 11)]], [ia ty (b 3) 57 r], [la ty (b 8) 2 (tw x y)], [ia ty (b 5) 798 (va_cpy r dd 0 (57 * cn) 57)], [la ty (b 10) 28 ds]]) := D_perm (po (bs := [[ia ty (b 3) 57 r], [ia ty (b 5) 798 (va_cpy r dd 0 (57 * cn) 57)], [ob (b 0) 9 [.int rf, .ref (b 1), .int tn, .int sp, .ref (b 2), .ref (b 3), .ref (b 4), .ref (b 5), .int (nI cn), .ref (b 6), .ref (b 7), .ref (b 8), .ref (b 9), .ref (b 10), .ref (b 11)]], [la ty (b 8) 2 (tw x y)], [la ty (b 10) 28 ds]]) [2, 0, 3, 1, 4] 5 rfl (by decide +kernel) rfl) hD
      refine lv_aload_n hx hb dX10_note_96 rfl (lv_at hl 0 rfl) ?_
      refine va_get (D := D) (ci := 9) (v := .ref (b 10)) (C := RX10) (T := TX10) (N := 15) hx hb hts i_X10 hown hK hP 0 rfl rfl 13 (by decide) (hts (Cond.fieldLink RX10 39 "BrownClockModel" "diarySums" "[J") (List.mem_of_getElem? (i := 3) rfl)) (fun _ h9 => h9) rfl dX10_note_97 ?_
      refine lv_iconst (v := 2) hx hb dX10_note_100 (by decide) ?_
      refine lv_aload_n hx hb dX10_note_101 rfl (lv_at hl 0 rfl) ?_
      refine va_get (D := D) (ci := 9) (v := .int (nI cn)) (C := RX10) (T := TX10) (N := 15) hx hb hts i_X10 hown hK hP 0 rfl rfl 8 (by decide) (hts (Cond.fieldLink RX10 124 "BrownClockModel" "acts" "I") (List.mem_of_getElem? (i := 1) rfl)) (fun _ h9 => h9) rfl dX10_note_102 ?_
      refine k_imul (v := (nI (2 * cn))) hx hb dX10_note_105 (nI_mul (2) (cn)) ?_
      refine lv_aload_n hx hb dX10_note_106 rfl (lv_at hl 0 rfl) ?_
      refine va_get (D := D) (ci := 9) (v := .ref (b 8)) (C := RX10) (T := TX10) (N := 15) hx hb hts i_X10 hown hK hP 0 rfl rfl 11 (by decide) (hts (Cond.fieldLink RX10 32 "BrownClockModel" "sums" "[J") (List.mem_of_getElem? (i := 5) rfl)) (fun _ h9 => h9) rfl dX10_note_107 ?_
      refine lv_iconst (v := 0) hx hb dX10_note_110 (by decide) ?_
      refine k_lald hx hb hK hP 2 rfl 0 rfl (by decide) (Nat.le_of_ble_eq_true rfl) (v := x) rfl dX10_note_111 ?_
      refine k_last hx hb hK hP hD hS 4 rfl (2 * cn) rfl (by omega) (Nat.le_of_ble_eq_true rfl) dX10_note_112 (fun H locs hP hD hS => ?_)
      have hP : va_P D vwCl (fl [[ob (b 0) 9 [.int rf, .ref (b 1), .int tn, .int sp, .ref (b 2), .ref (b 3), .ref (b 4), .ref (b 5), .int (nI cn), .ref (b 6), .ref (b 7), .ref (b 8), .ref (b 9), .ref (b 10), .ref (b 11)]], [ia ty (b 3) 57 r], [la ty (b 8) 2 (tw x y)], [ia ty (b 5) 798 (va_cpy r dd 0 (57 * cn) 57)], [la ty (b 10) 28 (vp_updL ds (2 * cn) x)]]) H := hP
      have hD : va_D A (fl [[ob (b 0) 9 [.int rf, .ref (b 1), .int tn, .int sp, .ref (b 2), .ref (b 3), .ref (b 4), .ref (b 5), .int (nI cn), .ref (b 6), .ref (b 7), .ref (b 8), .ref (b 9), .ref (b 10), .ref (b 11)]], [ia ty (b 3) 57 r], [la ty (b 8) 2 (tw x y)], [ia ty (b 5) 798 (va_cpy r dd 0 (57 * cn) 57)], [la ty (b 10) 28 (vp_updL ds (2 * cn) x)]]) := hD
      refine lv_aload_n hx hb dX10_note_113 rfl (lv_at hl 0 rfl) ?_
      refine va_get (D := D) (ci := 9) (v := .ref (b 10)) (C := RX10) (T := TX10) (N := 15) hx hb hts i_X10 hown hK hP 0 rfl rfl 13 (by decide) (hts (Cond.fieldLink RX10 39 "BrownClockModel" "diarySums" "[J") (List.mem_of_getElem? (i := 3) rfl)) (fun _ h9 => h9) rfl dX10_note_114 ?_
      refine lv_iconst (v := 2) hx hb dX10_note_117 (by decide) ?_
      refine lv_aload_n hx hb dX10_note_118 rfl (lv_at hl 0 rfl) ?_
      refine va_get (D := D) (ci := 9) (v := .int (nI cn)) (C := RX10) (T := TX10) (N := 15) hx hb hts i_X10 hown hK hP 0 rfl rfl 8 (by decide) (hts (Cond.fieldLink RX10 124 "BrownClockModel" "acts" "I") (List.mem_of_getElem? (i := 1) rfl)) (fun _ h9 => h9) rfl dX10_note_119 ?_
      refine k_imul (v := (nI (2 * cn))) hx hb dX10_note_122 (nI_mul (2) (cn)) ?_
      refine lv_iconst (v := 1) hx hb dX10_note_123 (by decide) ?_
      refine k_iadd (v := (nI (2 * cn + 1))) hx hb dX10_note_124 (nI_add (2 * cn) (1)) ?_
      refine lv_aload_n hx hb dX10_note_125 rfl (lv_at hl 0 rfl) ?_
      refine va_get (D := D) (ci := 9) (v := .ref (b 8)) (C := RX10) (T := TX10) (N := 15) hx hb hts i_X10 hown hK hP 0 rfl rfl 11 (by decide) (hts (Cond.fieldLink RX10 32 "BrownClockModel" "sums" "[J") (List.mem_of_getElem? (i := 5) rfl)) (fun _ h9 => h9) rfl dX10_note_126 ?_
      refine lv_iconst (v := 1) hx hb dX10_note_129 (by decide) ?_
      refine k_lald hx hb hK hP 2 rfl 1 rfl (by decide) (Nat.le_of_ble_eq_true rfl) (v := y) rfl dX10_note_130 ?_
      refine k_last hx hb hK hP hD hS 4 rfl (2 * cn + 1) rfl (by omega) (Nat.le_of_ble_eq_true rfl) dX10_note_131 (fun H locs hP hD hS => ?_)
      have hP : va_P D vwCl (fl [[ob (b 0) 9 [.int rf, .ref (b 1), .int tn, .int sp, .ref (b 2), .ref (b 3), .ref (b 4), .ref (b 5), .int (nI cn), .ref (b 6), .ref (b 7), .ref (b 8), .ref (b 9), .ref (b 10), .ref (b 11)]], [ia ty (b 3) 57 r], [la ty (b 8) 2 (tw x y)], [ia ty (b 5) 798 (va_cpy r dd 0 (57 * cn) 57)], [la ty (b 10) 28 (vp_updL (vp_updL ds (2 * cn) x) (2 * cn + 1) y)]]) H := hP
      have hD : va_D A (fl [[ob (b 0) 9 [.int rf, .ref (b 1), .int tn, .int sp, .ref (b 2), .ref (b 3), .ref (b 4), .ref (b 5), .int (nI cn), .ref (b 6), .ref (b 7), .ref (b 8), .ref (b 9), .ref (b 10), .ref (b 11)]], [ia ty (b 3) 57 r], [la ty (b 8) 2 (tw x y)], [ia ty (b 5) 798 (va_cpy r dd 0 (57 * cn) 57)], [la ty (b 10) 28 (vp_updL (vp_updL ds (2 * cn) x) (2 * cn + 1) y)]]) := hD
      refine lv_aload_n hx hb dX10_note_132 rfl (lv_at hl 0 rfl) ?_
      refine lv_dup hx hb dX10_note_133 rfl ?_
      refine va_get (D := D) (ci := 9) (v := .int (nI cn)) (C := RX10) (T := TX10) (N := 15) hx hb hts i_X10 hown hK hP 0 rfl rfl 8 (by decide) (hts (Cond.fieldLink RX10 124 "BrownClockModel" "acts" "I") (List.mem_of_getElem? (i := 1) rfl)) (fun _ h9 => h9) rfl dX10_note_134 ?_
      refine lv_iconst (v := 1) hx hb dX10_note_137 (by decide) ?_
      refine k_iadd (v := (nI (cn + 1))) hx hb dX10_note_138 (nI_add (cn) (1)) ?_
      refine va_put (D := D) (ci := 9) (v := .int (nI (cn + 1))) (ty := .int) (C := RX10) (T := TX10) (N := 15) hx hb hts i_X10 tyX10 tyX10_ok nmX10 hown hK hP hD hS 0 rfl rfl 8 (by decide) (hts (Cond.fieldLink RX10 124 "BrownClockModel" "acts" "I") (List.mem_of_getElem? (i := 1) rfl)) (fun _ h9 => h9) rfl (by decide +kernel) rfl rfl (Nat.le_of_ble_eq_true rfl) dX10_note_139 (fun H locs hP hD hS => ?_)
      have hP : va_P D vwCl (fl [[ob (b 0) 9 [.int rf, .ref (b 1), .int tn, .int sp, .ref (b 2), .ref (b 3), .ref (b 4), .ref (b 5), .int (nI (cn + 1)), .ref (b 6), .ref (b 7), .ref (b 8), .ref (b 9), .ref (b 10), .ref (b 11)]], [ia ty (b 3) 57 r], [la ty (b 8) 2 (tw x y)], [ia ty (b 5) 798 (va_cpy r dd 0 (57 * cn) 57)], [la ty (b 10) 28 (vp_updL (vp_updL ds (2 * cn) x) (2 * cn + 1) y)]]) H := hP
      have hD : va_D A (fl [[ob (b 0) 9 [.int rf, .ref (b 1), .int tn, .int sp, .ref (b 2), .ref (b 3), .ref (b 4), .ref (b 5), .int (nI (cn + 1)), .ref (b 6), .ref (b 7), .ref (b 8), .ref (b 9), .ref (b 10), .ref (b 11)]], [ia ty (b 3) 57 r], [la ty (b 8) 2 (tw x y)], [ia ty (b 5) 798 (va_cpy r dd 0 (57 * cn) 57)], [la ty (b 10) 28 (vp_updL (vp_updL ds (2 * cn) x) (2 * cn + 1) y)]]) := hD
      subst hQg
      have hP : va_P D vwCl (fl [[ob (b 0) 9 [.int rf, .ref (b 1), .int tn, .int sp, .ref (b 2), .ref (b 3), .ref (b 4), .ref (b 5), .int (nI (remC cn)), .ref (b 6), .ref (b 7), .ref (b 8), .ref (b 9), .ref (b 10), .ref (b 11)]], [ia ty (b 3) 57 r], [la ty (b 8) 2 (tw x y)], [ia ty (b 5) 798 (noteD cn dd r)], [la ty (b 10) 28 (noteS cn ds x y)]]) H := by rw [remC_y h14, show noteD cn dd r = va_cpy r dd 0 (57 * cn) 57 from if_pos h14, show noteS cn ds x y = vp_updL (vp_updL ds (2 * cn) x) (2 * cn + 1) y from if_pos h14]; exact hP
      have hD : va_D A (fl [[ob (b 0) 9 [.int rf, .ref (b 1), .int tn, .int sp, .ref (b 2), .ref (b 3), .ref (b 4), .ref (b 5), .int (nI (remC cn)), .ref (b 6), .ref (b 7), .ref (b 8), .ref (b 9), .ref (b 10), .ref (b 11)]], [ia ty (b 3) 57 r], [la ty (b 8) 2 (tw x y)], [ia ty (b 5) 798 (noteD cn dd r)], [la ty (b 10) 28 (noteS cn ds x y)]]) := (D_same2 hD [(b 0), (b 3), (b 8), (b 5), (b 10)] rfl rfl)
      exact end_v (bs' := (fun (_ : Unit) => [[ob (b 0) 9 [.int rf, .ref (b 1), .int tn, .int sp, .ref (b 2), .ref (b 3), .ref (b 4), .ref (b 5), .int (nI (remC cn)), .ref (b 6), .ref (b 7), .ref (b 8), .ref (b 9), .ref (b 10), .ref (b 11)]], [ia ty (b 3) 57 r], [la ty (b 8) 2 (tw x y)], [ia ty (b 5) 798 (noteD cn dd r)], [la ty (b 10) 28 (noteS cn ds x y)]])) () hx hb hr hlocks hP hD hS trivial (Nat.le_of_ble_eq_true rfl) (Nat.le_of_ble_eq_true rfl) dX10_note_142
    · first | exact absurd c_1 (fun q => absurd ((nI_eq (a := cn) (b := 14) (by omega) (by decide)).mp q) (by omega)) | exact absurd (fun q => absurd ((nI_eq (a := cn) (b := 14) (by omega) (by decide)).mp q) (by omega)) c_1
  · skip
    have e14 : cn = 14 := by omega
    refine lv_aload_n hx hb dX10_note_0 rfl (lv_at hl 0 rfl) ?_
    refine va_get (D := D) (ci := 9) (v := .int (nI cn)) (C := RX10) (T := TX10) (N := 15) hx hb hts i_X10 hown hK hP 0 rfl rfl 8 (by decide) (hts (Cond.fieldLink RX10 124 "BrownClockModel" "acts" "I") (List.mem_of_getElem? (i := 1) rfl)) (fun _ h9 => h9) rfl dX10_note_1 ?_
    refine lv_bipush (v := 14) hx hb dX10_note_4 (by decide) ?_
    refine lv_icmp_ne (tgt := 77) hx hb dX10_note_6 (by decide) (fun c_5 => ?_) (fun c_5 => ?_)
    · first | exact absurd c_5 (congrArg nI e14) | exact absurd (congrArg nI e14) c_5
    · skip
      refine lv_iconst (v := 0) hx hb dX10_note_9 (by decide) ?_
      refine lv_istore_n (lv' := [(1, .int 0), (0, .ref (b 0))]) hx hb dX10_note_10 rfl hl (by decide) rfl (fun ls hl => ?_)
      have hl : lv_has ls 2 [(1, .int (nI 0)), (0, .ref (b 0))] := hl
      have lp11 : ∀ (n : Nat) (i : Nat), (n + i = 742) → (i ≤ 741) → ∀ (H : Heap) (locs : List Loc), va_P D vwCl (fl [[ob (b 0) 9 [.int rf, .ref (b 1), .int tn, .int sp, .ref (b 2), .ref (b 3), .ref (b 4), .ref (b 5), .int (nI cn), .ref (b 6), .ref (b 7), .ref (b 8), .ref (b 9), .ref (b 10), .ref (b 11)]], [ia ty (b 3) 57 r], [la ty (b 8) 2 (tw x y)], [ia ty (b 5) 798 (shI 57 i dd)], [la ty (b 10) 28 ds]]) H → va_D A (fl [[ob (b 0) 9 [.int rf, .ref (b 1), .int tn, .int sp, .ref (b 2), .ref (b 3), .ref (b 4), .ref (b 5), .int (nI cn), .ref (b 6), .ref (b 7), .ref (b 8), .ref (b 9), .ref (b 10), .ref (b 11)]], [ia ty (b 3) 57 r], [la ty (b 8) 2 (tw x y)], [ia ty (b 5) 798 (shI 57 i dd)], [la ty (b 10) 28 ds]]) → va_S A s.heap H locs → ∀ ls : Array Slot, lv_has ls 2 [(1, .int (nI i)), (0, .ref (b 0))] → W p l e ({ frames := 1, cells := 0, slots := 0, locals := 24 } : Room) s m args below meth c H locs 0 0 Qg (F0 m 11 ls []) := by
        intro n
        induction n with
        | zero =>
          intro i g1 g2
          exact absurd g1 (by omega)
        | succ n ih =>
          intro i g1 g2 H locs hP hD hS ls hl
          refine lv_iload_n hx hb dX10_note_11 rfl (lv_at hl 0 rfl) ?_
          refine lv_sipush (v := 741) hx hb dX10_note_12 (by decide) ?_
          refine lv_icmp_ge (tgt := 39) hx hb dX10_note_15 (by decide) (fun c_6 => ?_) (fun c_6 => ?_)
          · skip
            have hz11 : i = 741 := by have q8 := (nI_leI (a := 741) (b := i) (by omega) (by omega)).mp c_6; omega
            subst hz11
            have hP : va_P D vwCl (fl [[ob (b 0) 9 [.int rf, .ref (b 1), .int tn, .int sp, .ref (b 2), .ref (b 3), .ref (b 4), .ref (b 5), .int (nI cn), .ref (b 6), .ref (b 7), .ref (b 8), .ref (b 9), .ref (b 10), .ref (b 11)]], [ia ty (b 3) 57 r], [la ty (b 8) 2 (tw x y)], [ia ty (b 5) 798 (shI 57 741 dd)], [la ty (b 10) 28 ds]]) H := hP
            have hD : va_D A (fl [[ob (b 0) 9 [.int rf, .ref (b 1), .int tn, .int sp, .ref (b 2), .ref (b 3), .ref (b 4), .ref (b 5), .int (nI cn), .ref (b 6), .ref (b 7), .ref (b 8), .ref (b 9), .ref (b 10), .ref (b 11)]], [ia ty (b 3) 57 r], [la ty (b 8) 2 (tw x y)], [ia ty (b 5) 798 (shI 57 741 dd)], [la ty (b 10) 28 ds]]) := hD
            refine lv_iconst (v := 0) hx hb dX10_note_39 (by decide) ?_
            refine lv_istore_n (lv' := [(1, .int 0), (0, .ref (b 0))]) hx hb dX10_note_40 rfl hl (by decide) rfl (fun ls hl => ?_)
            have hl : lv_has ls 2 [(1, .int (nI 0)), (0, .ref (b 0))] := hl
            have lp41 : ∀ (n : Nat) (i : Nat), (n + i = 27) → (i ≤ 26) → ∀ (H : Heap) (locs : List Loc), va_P D vwCl (fl [[ob (b 0) 9 [.int rf, .ref (b 1), .int tn, .int sp, .ref (b 2), .ref (b 3), .ref (b 4), .ref (b 5), .int (nI cn), .ref (b 6), .ref (b 7), .ref (b 8), .ref (b 9), .ref (b 10), .ref (b 11)]], [ia ty (b 3) 57 r], [la ty (b 8) 2 (tw x y)], [ia ty (b 5) 798 (shI 57 741 dd)], [la ty (b 10) 28 (shL 2 i ds)]]) H → va_D A (fl [[ob (b 0) 9 [.int rf, .ref (b 1), .int tn, .int sp, .ref (b 2), .ref (b 3), .ref (b 4), .ref (b 5), .int (nI cn), .ref (b 6), .ref (b 7), .ref (b 8), .ref (b 9), .ref (b 10), .ref (b 11)]], [ia ty (b 3) 57 r], [la ty (b 8) 2 (tw x y)], [ia ty (b 5) 798 (shI 57 741 dd)], [la ty (b 10) 28 (shL 2 i ds)]]) → va_S A s.heap H locs → ∀ ls : Array Slot, lv_has ls 2 [(1, .int (nI i)), (0, .ref (b 0))] → W p l e ({ frames := 1, cells := 0, slots := 0, locals := 24 } : Room) s m args below meth c H locs 0 0 Qg (F0 m 41 ls []) := by
              intro n
              induction n with
              | zero =>
                intro i g1 g2
                exact absurd g1 (by omega)
              | succ n ih =>
                intro i g1 g2 H locs hP hD hS ls hl
                refine lv_iload_n hx hb dX10_note_41 rfl (lv_at hl 0 rfl) ?_
                refine lv_bipush (v := 26) hx hb dX10_note_42 (by decide) ?_
                refine lv_icmp_ge (tgt := 67) hx hb dX10_note_44 (by decide) (fun c_7 => ?_) (fun c_7 => ?_)
                · skip
                  have hz41 : i = 26 := by have q8 := (nI_leI (a := 26) (b := i) (by omega) (by omega)).mp c_7; omega
                  subst hz41
                  have hP : va_P D vwCl (fl [[ob (b 0) 9 [.int rf, .ref (b 1), .int tn, .int sp, .ref (b 2), .ref (b 3), .ref (b 4), .ref (b 5), .int (nI cn), .ref (b 6), .ref (b 7), .ref (b 8), .ref (b 9), .ref (b 10), .ref (b 11)]], [ia ty (b 3) 57 r], [la ty (b 8) 2 (tw x y)], [ia ty (b 5) 798 (shI 57 741 dd)], [la ty (b 10) 28 (shL 2 26 ds)]]) H := hP
                  have hD : va_D A (fl [[ob (b 0) 9 [.int rf, .ref (b 1), .int tn, .int sp, .ref (b 2), .ref (b 3), .ref (b 4), .ref (b 5), .int (nI cn), .ref (b 6), .ref (b 7), .ref (b 8), .ref (b 9), .ref (b 10), .ref (b 11)]], [ia ty (b 3) 57 r], [la ty (b 8) 2 (tw x y)], [ia ty (b 5) 798 (shI 57 741 dd)], [la ty (b 10) 28 (shL 2 26 ds)]]) := hD
                  refine lv_aload_n hx hb dX10_note_67 rfl (lv_at hl 1 rfl) ?_
                  refine lv_dup hx hb dX10_note_68 rfl ?_
                  refine va_get (D := D) (ci := 9) (v := .int (nI cn)) (C := RX10) (T := TX10) (N := 15) hx hb hts i_X10 hown hK hP 0 rfl rfl 8 (by decide) (hts (Cond.fieldLink RX10 124 "BrownClockModel" "acts" "I") (List.mem_of_getElem? (i := 1) rfl)) (fun _ h9 => h9) rfl dX10_note_69 ?_
                  refine lv_iconst (v := 1) hx hb dX10_note_72 (by decide) ?_
                  refine k_isub (v := (nI 13)) hx hb dX10_note_73 (by rw [e14]; decide +kernel) ?_
                  refine va_put (D := D) (ci := 9) (v := .int (nI 13)) (ty := .int) (C := RX10) (T := TX10) (N := 15) hx hb hts i_X10 tyX10 tyX10_ok nmX10 hown hK hP hD hS 0 rfl rfl 8 (by decide) (hts (Cond.fieldLink RX10 124 "BrownClockModel" "acts" "I") (List.mem_of_getElem? (i := 1) rfl)) (fun _ h9 => h9) rfl (by decide +kernel) rfl rfl (Nat.le_of_ble_eq_true rfl) dX10_note_74 (fun H locs hP hD hS => ?_)
                  have hP : va_P D vwCl (fl [[ob (b 0) 9 [.int rf, .ref (b 1), .int tn, .int sp, .ref (b 2), .ref (b 3), .ref (b 4), .ref (b 5), .int (nI 13), .ref (b 6), .ref (b 7), .ref (b 8), .ref (b 9), .ref (b 10), .ref (b 11)]], [ia ty (b 3) 57 r], [la ty (b 8) 2 (tw x y)], [ia ty (b 5) 798 (shI 57 741 dd)], [la ty (b 10) 28 (shL 2 26 ds)]]) H := hP
                  have hD : va_D A (fl [[ob (b 0) 9 [.int rf, .ref (b 1), .int tn, .int sp, .ref (b 2), .ref (b 3), .ref (b 4), .ref (b 5), .int (nI 13), .ref (b 6), .ref (b 7), .ref (b 8), .ref (b 9), .ref (b 10), .ref (b 11)]], [ia ty (b 3) 57 r], [la ty (b 8) 2 (tw x y)], [ia ty (b 5) 798 (shI 57 741 dd)], [la ty (b 10) 28 (shL 2 26 ds)]]) := hD
                  refine lv_aload_n hx hb dX10_note_77 rfl (lv_at hl 1 rfl) ?_
                  refine va_get (D := D) (ci := 9) (v := .ref (b 3)) (C := RX10) (T := TX10) (N := 15) hx hb hts i_X10 hown hK hP 0 rfl rfl 5 (by decide) (hts (Cond.fieldLink RX10 16 "BrownClockModel" "now" "[I") (List.mem_of_getElem? (i := 4) rfl)) (fun _ h9 => h9) rfl dX10_note_78 ?_
                  refine lv_iconst (v := 0) hx hb dX10_note_81 (by decide) ?_
                  refine lv_aload_n hx hb dX10_note_82 rfl (lv_at hl 1 rfl) ?_
                  refine va_get (D := D) (ci := 9) (v := .ref (b 5)) (C := RX10) (T := TX10) (N := 15) hx hb hts i_X10 hown hK hP 0 rfl rfl 7 (by decide) (hts (Cond.fieldLink RX10 22 "BrownClockModel" "diary" "[I") (List.mem_of_getElem? (i := 2) rfl)) (fun _ h9 => h9) rfl dX10_note_83 ?_
                  refine lv_bipush (v := 57) hx hb dX10_note_86 (by decide) ?_
                  refine lv_aload_n hx hb dX10_note_88 rfl (lv_at hl 1 rfl) ?_
                  refine va_get (D := D) (ci := 9) (v := .int (nI 13)) (C := RX10) (T := TX10) (N := 15) hx hb hts i_X10 hown hK hP 0 rfl rfl 8 (by decide) (hts (Cond.fieldLink RX10 124 "BrownClockModel" "acts" "I") (List.mem_of_getElem? (i := 1) rfl)) (fun _ h9 => h9) rfl dX10_note_89 ?_
                  refine k_imul (v := (nI 741)) hx hb dX10_note_92 (by decide +kernel) ?_
                  refine cSv (As := [.ref (b 3), .int 0, .ref (b 5), .int (nI 741)]) (rest := []) ⟨hx, hb, hml, hown, hts⟩ (c_X10_copyPage l D ty (b 3) (b 5) 57 798 0 741 r (shI 57 741 dd) (by omega) (by omega) (by omega) (by omega)) (va_cwS 4 hts gX10_note_X10_copyPage rfl rfl rfl (by decide +kernel) ⟨Nat.le_of_ble_eq_true rfl, Nat.le_of_ble_eq_true rfl⟩) hK hX hP hD hS hA (pk (bs := [[ob (b 0) 9 [.int rf, .ref (b 1), .int tn, .int sp, .ref (b 2), .ref (b 3), .ref (b 4), .ref (b 5), .int (nI 13), .ref (b 6), .ref (b 7), .ref (b 8), .ref (b 9), .ref (b 10), .ref (b 11)]], [ia ty (b 3) 57 r], [la ty (b 8) 2 (tw x y)], [ia ty (b 5) 798 (shI 57 741 dd)], [la ty (b 10) 28 (shL 2 26 ds)]]) (bsc := [[ia ty (b 3) 57 r], [ia ty (b 5) 798 (shI 57 741 dd)]]) (bsr := [[ob (b 0) 9 [.int rf, .ref (b 1), .int tn, .int sp, .ref (b 2), .ref (b 3), .ref (b 4), .ref (b 5), .int (nI 13), .ref (b 6), .ref (b 7), .ref (b 8), .ref (b 9), .ref (b 10), .ref (b 11)]], [la ty (b 8) 2 (tw x y)], [la ty (b 10) 28 (shL 2 26 ds)]]) [1, 3] [0, 2, 4] 5 rfl (by decide +kernel) rfl rfl) rfl hl.1 rfl (Nat.le_of_ble_eq_true rfl) dX10_note_93 ⟨Nat.le_of_ble_eq_true rfl, Nat.le_of_ble_eq_true rfl⟩ (fun u_8 h_10 H locs hP hD hS => ?_)
                  have hP : va_P D vwCl (fl [[ob (b 0) 9 [.int rf, .ref (b 1), .int tn, .int sp, .ref (b 2), .ref (b 3), .ref (b 4), .ref (b 5), .int (nI 13), .ref (b 6), .ref (b 7), .ref (b 8), .ref (b 9), .ref (b 10), .ref (b 11)]], [ia ty (b 3) 57 r], [la ty (b 8) 2 (tw x y)], [ia ty (b 5) 798 (va_cpy r (shI 57 741 dd) 0 741 57)], [la ty (b 10) 28 (shL 2 26 ds)]]) H := P_perm (po (bs := [[ia ty (b 3) 57 r], [ia ty (b 5) 798 (va_cpy r (shI 57 741 dd) 0 741 57)], [ob (b 0) 9 [.int rf, .ref (b 1), .int tn, .int sp, .ref (b 2), .ref (b 3), .ref (b 4), .ref (b 5), .int (nI 13), .ref (b 6), .ref (b 7), .ref (b 8), .ref (b 9), .ref (b 10), .ref (b 11)]], [la ty (b 8) 2 (tw x y)], [la ty (b 10) 28 (shL 2 26 ds)]]) [2, 0, 3, 1, 4] 5 rfl (by decide +kernel) rfl) hP
                  have hD : va_D A (fl [[ob (b 0) 9 [.int rf, .ref (b 1), .int tn, .int sp, .ref (b 2), .ref (b 3), .ref (b 4), .ref (b 5), .int (nI 13), .ref (b 6), .ref (b 7), .ref (b 8), .ref (b 9), .ref (b 10), .ref (b 11)]], [ia ty (b 3) 57 r], [la ty (b 8) 2 (tw x y)], [ia ty (b 5) 798 (va_cpy r (shI 57 741 dd) 0 741 57)], [la ty (b 10) 28 (shL 2 26 ds)]]) := D_perm (po (bs := [[ia ty (b 3) 57 r], [ia ty (b 5) 798 (va_cpy r (shI 57 741 dd) 0 741 57)], [ob (b 0) 9 [.int rf, .ref (b 1), .int tn, .int sp, .ref (b 2), .ref (b 3), .ref (b 4), .ref (b 5), .int (nI 13), .ref (b 6), .ref (b 7), .ref (b 8), .ref (b 9), .ref (b 10), .ref (b 11)]], [la ty (b 8) 2 (tw x y)], [la ty (b 10) 28 (shL 2 26 ds)]]) [2, 0, 3, 1, 4] 5 rfl (by decide +kernel) rfl) hD
                  refine lv_aload_n hx hb dX10_note_96 rfl (lv_at hl 1 rfl) ?_
                  refine va_get (D := D) (ci := 9) (v := .ref (b 10)) (C := RX10) (T := TX10) (N := 15) hx hb hts i_X10 hown hK hP 0 rfl rfl 13 (by decide) (hts (Cond.fieldLink RX10 39 "BrownClockModel" "diarySums" "[J") (List.mem_of_getElem? (i := 3) rfl)) (fun _ h9 => h9) rfl dX10_note_97 ?_
                  refine lv_iconst (v := 2) hx hb dX10_note_100 (by decide) ?_
                  refine lv_aload_n hx hb dX10_note_101 rfl (lv_at hl 1 rfl) ?_
                  refine va_get (D := D) (ci := 9) (v := .int (nI 13)) (C := RX10) (T := TX10) (N := 15) hx hb hts i_X10 hown hK hP 0 rfl rfl 8 (by decide) (hts (Cond.fieldLink RX10 124 "BrownClockModel" "acts" "I") (List.mem_of_getElem? (i := 1) rfl)) (fun _ h9 => h9) rfl dX10_note_102 ?_
                  refine k_imul (v := (nI 26)) hx hb dX10_note_105 (by decide +kernel) ?_
                  refine lv_aload_n hx hb dX10_note_106 rfl (lv_at hl 1 rfl) ?_
                  refine va_get (D := D) (ci := 9) (v := .ref (b 8)) (C := RX10) (T := TX10) (N := 15) hx hb hts i_X10 hown hK hP 0 rfl rfl 11 (by decide) (hts (Cond.fieldLink RX10 32 "BrownClockModel" "sums" "[J") (List.mem_of_getElem? (i := 5) rfl)) (fun _ h9 => h9) rfl dX10_note_107 ?_
                  refine lv_iconst (v := 0) hx hb dX10_note_110 (by decide) ?_
                  refine k_lald hx hb hK hP 2 rfl 0 rfl (by decide) (Nat.le_of_ble_eq_true rfl) (v := x) rfl dX10_note_111 ?_
                  refine k_last hx hb hK hP hD hS 4 rfl 26 rfl (by omega) (Nat.le_of_ble_eq_true rfl) dX10_note_112 (fun H locs hP hD hS => ?_)
                  have hP : va_P D vwCl (fl [[ob (b 0) 9 [.int rf, .ref (b 1), .int tn, .int sp, .ref (b 2), .ref (b 3), .ref (b 4), .ref (b 5), .int (nI 13), .ref (b 6), .ref (b 7), .ref (b 8), .ref (b 9), .ref (b 10), .ref (b 11)]], [ia ty (b 3) 57 r], [la ty (b 8) 2 (tw x y)], [ia ty (b 5) 798 (va_cpy r (shI 57 741 dd) 0 741 57)], [la ty (b 10) 28 (vp_updL (shL 2 26 ds) 26 x)]]) H := hP
                  have hD : va_D A (fl [[ob (b 0) 9 [.int rf, .ref (b 1), .int tn, .int sp, .ref (b 2), .ref (b 3), .ref (b 4), .ref (b 5), .int (nI 13), .ref (b 6), .ref (b 7), .ref (b 8), .ref (b 9), .ref (b 10), .ref (b 11)]], [ia ty (b 3) 57 r], [la ty (b 8) 2 (tw x y)], [ia ty (b 5) 798 (va_cpy r (shI 57 741 dd) 0 741 57)], [la ty (b 10) 28 (vp_updL (shL 2 26 ds) 26 x)]]) := hD
                  refine lv_aload_n hx hb dX10_note_113 rfl (lv_at hl 1 rfl) ?_
                  refine va_get (D := D) (ci := 9) (v := .ref (b 10)) (C := RX10) (T := TX10) (N := 15) hx hb hts i_X10 hown hK hP 0 rfl rfl 13 (by decide) (hts (Cond.fieldLink RX10 39 "BrownClockModel" "diarySums" "[J") (List.mem_of_getElem? (i := 3) rfl)) (fun _ h9 => h9) rfl dX10_note_114 ?_
                  refine lv_iconst (v := 2) hx hb dX10_note_117 (by decide) ?_
                  refine lv_aload_n hx hb dX10_note_118 rfl (lv_at hl 1 rfl) ?_
                  refine va_get (D := D) (ci := 9) (v := .int (nI 13)) (C := RX10) (T := TX10) (N := 15) hx hb hts i_X10 hown hK hP 0 rfl rfl 8 (by decide) (hts (Cond.fieldLink RX10 124 "BrownClockModel" "acts" "I") (List.mem_of_getElem? (i := 1) rfl)) (fun _ h9 => h9) rfl dX10_note_119 ?_
                  refine k_imul (v := (nI 26)) hx hb dX10_note_122 (by decide +kernel) ?_
                  refine lv_iconst (v := 1) hx hb dX10_note_123 (by decide) ?_
                  refine k_iadd (v := (nI 27)) hx hb dX10_note_124 (by decide +kernel) ?_
                  refine lv_aload_n hx hb dX10_note_125 rfl (lv_at hl 1 rfl) ?_
                  refine va_get (D := D) (ci := 9) (v := .ref (b 8)) (C := RX10) (T := TX10) (N := 15) hx hb hts i_X10 hown hK hP 0 rfl rfl 11 (by decide) (hts (Cond.fieldLink RX10 32 "BrownClockModel" "sums" "[J") (List.mem_of_getElem? (i := 5) rfl)) (fun _ h9 => h9) rfl dX10_note_126 ?_
                  refine lv_iconst (v := 1) hx hb dX10_note_129 (by decide) ?_
                  refine k_lald hx hb hK hP 2 rfl 1 rfl (by decide) (Nat.le_of_ble_eq_true rfl) (v := y) rfl dX10_note_130 ?_
                  refine k_last hx hb hK hP hD hS 4 rfl 27 rfl (by omega) (Nat.le_of_ble_eq_true rfl) dX10_note_131 (fun H locs hP hD hS => ?_)
                  have hP : va_P D vwCl (fl [[ob (b 0) 9 [.int rf, .ref (b 1), .int tn, .int sp, .ref (b 2), .ref (b 3), .ref (b 4), .ref (b 5), .int (nI 13), .ref (b 6), .ref (b 7), .ref (b 8), .ref (b 9), .ref (b 10), .ref (b 11)]], [ia ty (b 3) 57 r], [la ty (b 8) 2 (tw x y)], [ia ty (b 5) 798 (va_cpy r (shI 57 741 dd) 0 741 57)], [la ty (b 10) 28 (vp_updL (vp_updL (shL 2 26 ds) 26 x) 27 y)]]) H := hP
                  have hD : va_D A (fl [[ob (b 0) 9 [.int rf, .ref (b 1), .int tn, .int sp, .ref (b 2), .ref (b 3), .ref (b 4), .ref (b 5), .int (nI 13), .ref (b 6), .ref (b 7), .ref (b 8), .ref (b 9), .ref (b 10), .ref (b 11)]], [ia ty (b 3) 57 r], [la ty (b 8) 2 (tw x y)], [ia ty (b 5) 798 (va_cpy r (shI 57 741 dd) 0 741 57)], [la ty (b 10) 28 (vp_updL (vp_updL (shL 2 26 ds) 26 x) 27 y)]]) := hD
                  refine lv_aload_n hx hb dX10_note_132 rfl (lv_at hl 1 rfl) ?_
                  refine lv_dup hx hb dX10_note_133 rfl ?_
                  refine va_get (D := D) (ci := 9) (v := .int (nI 13)) (C := RX10) (T := TX10) (N := 15) hx hb hts i_X10 hown hK hP 0 rfl rfl 8 (by decide) (hts (Cond.fieldLink RX10 124 "BrownClockModel" "acts" "I") (List.mem_of_getElem? (i := 1) rfl)) (fun _ h9 => h9) rfl dX10_note_134 ?_
                  refine lv_iconst (v := 1) hx hb dX10_note_137 (by decide) ?_
                  refine k_iadd (v := (nI 14)) hx hb dX10_note_138 (by decide +kernel) ?_
                  refine va_put (D := D) (ci := 9) (v := .int (nI 14)) (ty := .int) (C := RX10) (T := TX10) (N := 15) hx hb hts i_X10 tyX10 tyX10_ok nmX10 hown hK hP hD hS 0 rfl rfl 8 (by decide) (hts (Cond.fieldLink RX10 124 "BrownClockModel" "acts" "I") (List.mem_of_getElem? (i := 1) rfl)) (fun _ h9 => h9) rfl (by decide +kernel) rfl rfl (Nat.le_of_ble_eq_true rfl) dX10_note_139 (fun H locs hP hD hS => ?_)
                  have hP : va_P D vwCl (fl [[ob (b 0) 9 [.int rf, .ref (b 1), .int tn, .int sp, .ref (b 2), .ref (b 3), .ref (b 4), .ref (b 5), .int (nI 14), .ref (b 6), .ref (b 7), .ref (b 8), .ref (b 9), .ref (b 10), .ref (b 11)]], [ia ty (b 3) 57 r], [la ty (b 8) 2 (tw x y)], [ia ty (b 5) 798 (va_cpy r (shI 57 741 dd) 0 741 57)], [la ty (b 10) 28 (vp_updL (vp_updL (shL 2 26 ds) 26 x) 27 y)]]) H := hP
                  have hD : va_D A (fl [[ob (b 0) 9 [.int rf, .ref (b 1), .int tn, .int sp, .ref (b 2), .ref (b 3), .ref (b 4), .ref (b 5), .int (nI 14), .ref (b 6), .ref (b 7), .ref (b 8), .ref (b 9), .ref (b 10), .ref (b 11)]], [ia ty (b 3) 57 r], [la ty (b 8) 2 (tw x y)], [ia ty (b 5) 798 (va_cpy r (shI 57 741 dd) 0 741 57)], [la ty (b 10) 28 (vp_updL (vp_updL (shL 2 26 ds) 26 x) 27 y)]]) := hD
                  subst hQg
                  have hP : va_P D vwCl (fl [[ob (b 0) 9 [.int rf, .ref (b 1), .int tn, .int sp, .ref (b 2), .ref (b 3), .ref (b 4), .ref (b 5), .int (nI (remC cn)), .ref (b 6), .ref (b 7), .ref (b 8), .ref (b 9), .ref (b 10), .ref (b 11)]], [ia ty (b 3) 57 r], [la ty (b 8) 2 (tw x y)], [ia ty (b 5) 798 (noteD cn dd r)], [la ty (b 10) 28 (noteS cn ds x y)]]) H := by rw [remC_n (show ¬ cn < 14 by omega), show noteD cn dd r = va_cpy r (shI 57 741 dd) 0 741 57 from if_neg (by omega), show noteS cn ds x y = vp_updL (vp_updL (shL 2 26 ds) 26 x) 27 y from if_neg (by omega)]; exact hP
                  have hD : va_D A (fl [[ob (b 0) 9 [.int rf, .ref (b 1), .int tn, .int sp, .ref (b 2), .ref (b 3), .ref (b 4), .ref (b 5), .int (nI (remC cn)), .ref (b 6), .ref (b 7), .ref (b 8), .ref (b 9), .ref (b 10), .ref (b 11)]], [ia ty (b 3) 57 r], [la ty (b 8) 2 (tw x y)], [ia ty (b 5) 798 (noteD cn dd r)], [la ty (b 10) 28 (noteS cn ds x y)]]) := (D_same2 hD [(b 0), (b 3), (b 8), (b 5), (b 10)] rfl rfl)
                  exact end_v (bs' := (fun (_ : Unit) => [[ob (b 0) 9 [.int rf, .ref (b 1), .int tn, .int sp, .ref (b 2), .ref (b 3), .ref (b 4), .ref (b 5), .int (nI (remC cn)), .ref (b 6), .ref (b 7), .ref (b 8), .ref (b 9), .ref (b 10), .ref (b 11)]], [ia ty (b 3) 57 r], [la ty (b 8) 2 (tw x y)], [ia ty (b 5) 798 (noteD cn dd r)], [la ty (b 10) 28 (noteS cn ds x y)]])) () hx hb hr hlocks hP hD hS trivial (Nat.le_of_ble_eq_true rfl) (Nat.le_of_ble_eq_true rfl) dX10_note_142
                · skip
                  have hlt41 : i < 26 := (nI_ltI (a := i) (b := 26) (by omega) (by omega)).mp (Int32.not_le.mp c_7)
                  refine lv_aload_n hx hb dX10_note_47 rfl (lv_at hl 1 rfl) ?_
                  refine va_get (D := D) (ci := 9) (v := .ref (b 10)) (C := RX10) (T := TX10) (N := 15) hx hb hts i_X10 hown hK hP 0 rfl rfl 13 (by decide) (hts (Cond.fieldLink RX10 39 "BrownClockModel" "diarySums" "[J") (List.mem_of_getElem? (i := 3) rfl)) (fun _ h9 => h9) rfl dX10_note_48 ?_
                  refine lv_iload_n hx hb dX10_note_51 rfl (lv_at hl 0 rfl) ?_
                  refine lv_aload_n hx hb dX10_note_52 rfl (lv_at hl 1 rfl) ?_
                  refine va_get (D := D) (ci := 9) (v := .ref (b 10)) (C := RX10) (T := TX10) (N := 15) hx hb hts i_X10 hown hK hP 0 rfl rfl 13 (by decide) (hts (Cond.fieldLink RX10 39 "BrownClockModel" "diarySums" "[J") (List.mem_of_getElem? (i := 3) rfl)) (fun _ h9 => h9) rfl dX10_note_53 ?_
                  refine lv_iload_n hx hb dX10_note_56 rfl (lv_at hl 0 rfl) ?_
                  refine lv_iconst (v := 2) hx hb dX10_note_57 (by decide) ?_
                  refine k_iadd (v := (nI (i + 2))) hx hb dX10_note_58 (nI_add (i) (2)) ?_
                  refine k_lald hx hb hK hP 4 rfl (i + 2) rfl (by omega) (Nat.le_of_ble_eq_true rfl) (v := (shL 2 i ds) (i + 2)) rfl dX10_note_59 ?_
                  refine k_last hx hb hK hP hD hS 4 rfl i rfl (by omega) (Nat.le_of_ble_eq_true rfl) dX10_note_60 (fun H locs hP hD hS => ?_)
                  have hP : va_P D vwCl (fl [[ob (b 0) 9 [.int rf, .ref (b 1), .int tn, .int sp, .ref (b 2), .ref (b 3), .ref (b 4), .ref (b 5), .int (nI cn), .ref (b 6), .ref (b 7), .ref (b 8), .ref (b 9), .ref (b 10), .ref (b 11)]], [ia ty (b 3) 57 r], [la ty (b 8) 2 (tw x y)], [ia ty (b 5) 798 (shI 57 741 dd)], [la ty (b 10) 28 (vp_updL (shL 2 i ds) i ((shL 2 i ds) (i + 2)))]]) H := hP
                  have hD : va_D A (fl [[ob (b 0) 9 [.int rf, .ref (b 1), .int tn, .int sp, .ref (b 2), .ref (b 3), .ref (b 4), .ref (b 5), .int (nI cn), .ref (b 6), .ref (b 7), .ref (b 8), .ref (b 9), .ref (b 10), .ref (b 11)]], [ia ty (b 3) 57 r], [la ty (b 8) 2 (tw x y)], [ia ty (b 5) 798 (shI 57 741 dd)], [la ty (b 10) 28 (vp_updL (shL 2 i ds) i ((shL 2 i ds) (i + 2)))]]) := hD
                  refine lv_iinc (v := (nI (i + 1))) (lv' := [(1, .int (nI (i + 1))), (0, .ref (b 0))]) hx hb dX10_note_61 hl (k := 0) rfl (nI_add (i) (1)) (by decide) rfl (fun ls hl => ?_)
                  refine lv_goto (tgt := 41) hx hb dX10_note_64 (by decide) ?_
                  have hP : va_P D vwCl (fl [[ob (b 0) 9 [.int rf, .ref (b 1), .int tn, .int sp, .ref (b 2), .ref (b 3), .ref (b 4), .ref (b 5), .int (nI cn), .ref (b 6), .ref (b 7), .ref (b 8), .ref (b 9), .ref (b 10), .ref (b 11)]], [ia ty (b 3) 57 r], [la ty (b 8) 2 (tw x y)], [ia ty (b 5) 798 (shI 57 741 dd)], [la ty (b 10) 28 (shL 2 (i + 1) ds)]]) H := by rw [← shL_succ]; exact hP
                  have hD : va_D A (fl [[ob (b 0) 9 [.int rf, .ref (b 1), .int tn, .int sp, .ref (b 2), .ref (b 3), .ref (b 4), .ref (b 5), .int (nI cn), .ref (b 6), .ref (b 7), .ref (b 8), .ref (b 9), .ref (b 10), .ref (b 11)]], [ia ty (b 3) 57 r], [la ty (b 8) 2 (tw x y)], [ia ty (b 5) 798 (shI 57 741 dd)], [la ty (b 10) 28 (shL 2 (i + 1) ds)]]) := by rw [← shL_succ]; exact hD
                  exact ih (i + 1) (by omega) (by omega) _ _ (show va_P D vwCl (fl [[ob (b 0) 9 [.int rf, .ref (b 1), .int tn, .int sp, .ref (b 2), .ref (b 3), .ref (b 4), .ref (b 5), .int (nI cn), .ref (b 6), .ref (b 7), .ref (b 8), .ref (b 9), .ref (b 10), .ref (b 11)]], [ia ty (b 3) 57 r], [la ty (b 8) 2 (tw x y)], [ia ty (b 5) 798 (shI 57 741 dd)], [la ty (b 10) 28 (shL 2 (i + 1) ds)]]) _ from hP) hD hS _ (lv_sub hl [0, 1] rfl)
            have hP : va_P D vwCl (fl [[ob (b 0) 9 [.int rf, .ref (b 1), .int tn, .int sp, .ref (b 2), .ref (b 3), .ref (b 4), .ref (b 5), .int (nI cn), .ref (b 6), .ref (b 7), .ref (b 8), .ref (b 9), .ref (b 10), .ref (b 11)]], [ia ty (b 3) 57 r], [la ty (b 8) 2 (tw x y)], [ia ty (b 5) 798 (shI 57 741 dd)], [la ty (b 10) 28 (shL 2 0 ds)]]) H := by rw [shL_0]; exact hP
            have hD : va_D A (fl [[ob (b 0) 9 [.int rf, .ref (b 1), .int tn, .int sp, .ref (b 2), .ref (b 3), .ref (b 4), .ref (b 5), .int (nI cn), .ref (b 6), .ref (b 7), .ref (b 8), .ref (b 9), .ref (b 10), .ref (b 11)]], [ia ty (b 3) 57 r], [la ty (b 8) 2 (tw x y)], [ia ty (b 5) 798 (shI 57 741 dd)], [la ty (b 10) 28 (shL 2 0 ds)]]) := by rw [shL_0]; exact hD
            exact lp41 27 0 (rfl) (Nat.zero_le _) _ _ (show va_P D vwCl (fl [[ob (b 0) 9 [.int rf, .ref (b 1), .int tn, .int sp, .ref (b 2), .ref (b 3), .ref (b 4), .ref (b 5), .int (nI cn), .ref (b 6), .ref (b 7), .ref (b 8), .ref (b 9), .ref (b 10), .ref (b 11)]], [ia ty (b 3) 57 r], [la ty (b 8) 2 (tw x y)], [ia ty (b 5) 798 (shI 57 741 dd)], [la ty (b 10) 28 (shL 2 0 ds)]]) _ from hP) hD hS _ (lv_sub hl [0, 1] rfl)
          · skip
            have hlt11 : i < 741 := (nI_ltI (a := i) (b := 741) (by omega) (by omega)).mp (Int32.not_le.mp c_6)
            refine lv_aload_n hx hb dX10_note_18 rfl (lv_at hl 1 rfl) ?_
            refine va_get (D := D) (ci := 9) (v := .ref (b 5)) (C := RX10) (T := TX10) (N := 15) hx hb hts i_X10 hown hK hP 0 rfl rfl 7 (by decide) (hts (Cond.fieldLink RX10 22 "BrownClockModel" "diary" "[I") (List.mem_of_getElem? (i := 2) rfl)) (fun _ h9 => h9) rfl dX10_note_19 ?_
            refine lv_iload_n hx hb dX10_note_22 rfl (lv_at hl 0 rfl) ?_
            refine lv_aload_n hx hb dX10_note_23 rfl (lv_at hl 1 rfl) ?_
            refine va_get (D := D) (ci := 9) (v := .ref (b 5)) (C := RX10) (T := TX10) (N := 15) hx hb hts i_X10 hown hK hP 0 rfl rfl 7 (by decide) (hts (Cond.fieldLink RX10 22 "BrownClockModel" "diary" "[I") (List.mem_of_getElem? (i := 2) rfl)) (fun _ h9 => h9) rfl dX10_note_24 ?_
            refine lv_iload_n hx hb dX10_note_27 rfl (lv_at hl 0 rfl) ?_
            refine lv_bipush (v := 57) hx hb dX10_note_28 (by decide) ?_
            refine k_iadd (v := (nI (i + 57))) hx hb dX10_note_30 (nI_add (i) (57)) ?_
            refine k_iald hx hb hK hP 3 rfl (i + 57) rfl (by omega) (Nat.le_of_ble_eq_true rfl) (v := (shI 57 i dd) (i + 57)) rfl dX10_note_31 ?_
            refine k_iast hx hb hK hP hD hS 3 rfl i rfl (by omega) (Nat.le_of_ble_eq_true rfl) dX10_note_32 (fun H locs hP hD hS => ?_)
            have hP : va_P D vwCl (fl [[ob (b 0) 9 [.int rf, .ref (b 1), .int tn, .int sp, .ref (b 2), .ref (b 3), .ref (b 4), .ref (b 5), .int (nI cn), .ref (b 6), .ref (b 7), .ref (b 8), .ref (b 9), .ref (b 10), .ref (b 11)]], [ia ty (b 3) 57 r], [la ty (b 8) 2 (tw x y)], [ia ty (b 5) 798 (upd (shI 57 i dd) i ((shI 57 i dd) (i + 57)))], [la ty (b 10) 28 ds]]) H := hP
            have hD : va_D A (fl [[ob (b 0) 9 [.int rf, .ref (b 1), .int tn, .int sp, .ref (b 2), .ref (b 3), .ref (b 4), .ref (b 5), .int (nI cn), .ref (b 6), .ref (b 7), .ref (b 8), .ref (b 9), .ref (b 10), .ref (b 11)]], [ia ty (b 3) 57 r], [la ty (b 8) 2 (tw x y)], [ia ty (b 5) 798 (upd (shI 57 i dd) i ((shI 57 i dd) (i + 57)))], [la ty (b 10) 28 ds]]) := hD
            refine lv_iinc (v := (nI (i + 1))) (lv' := [(1, .int (nI (i + 1))), (0, .ref (b 0))]) hx hb dX10_note_33 hl (k := 0) rfl (nI_add (i) (1)) (by decide) rfl (fun ls hl => ?_)
            refine lv_goto (tgt := 11) hx hb dX10_note_36 (by decide) ?_
            have hP : va_P D vwCl (fl [[ob (b 0) 9 [.int rf, .ref (b 1), .int tn, .int sp, .ref (b 2), .ref (b 3), .ref (b 4), .ref (b 5), .int (nI cn), .ref (b 6), .ref (b 7), .ref (b 8), .ref (b 9), .ref (b 10), .ref (b 11)]], [ia ty (b 3) 57 r], [la ty (b 8) 2 (tw x y)], [ia ty (b 5) 798 (shI 57 (i + 1) dd)], [la ty (b 10) 28 ds]]) H := by rw [← shI_succ]; exact hP
            have hD : va_D A (fl [[ob (b 0) 9 [.int rf, .ref (b 1), .int tn, .int sp, .ref (b 2), .ref (b 3), .ref (b 4), .ref (b 5), .int (nI cn), .ref (b 6), .ref (b 7), .ref (b 8), .ref (b 9), .ref (b 10), .ref (b 11)]], [ia ty (b 3) 57 r], [la ty (b 8) 2 (tw x y)], [ia ty (b 5) 798 (shI 57 (i + 1) dd)], [la ty (b 10) 28 ds]]) := by rw [← shI_succ]; exact hD
            exact ih (i + 1) (by omega) (by omega) _ _ (show va_P D vwCl (fl [[ob (b 0) 9 [.int rf, .ref (b 1), .int tn, .int sp, .ref (b 2), .ref (b 3), .ref (b 4), .ref (b 5), .int (nI cn), .ref (b 6), .ref (b 7), .ref (b 8), .ref (b 9), .ref (b 10), .ref (b 11)]], [ia ty (b 3) 57 r], [la ty (b 8) 2 (tw x y)], [ia ty (b 5) 798 (shI 57 (i + 1) dd)], [la ty (b 10) 28 ds]]) _ from hP) hD hS _ (lv_sub hl [0, 1] rfl)
      have hP : va_P D vwCl (fl [[ob (b 0) 9 [.int rf, .ref (b 1), .int tn, .int sp, .ref (b 2), .ref (b 3), .ref (b 4), .ref (b 5), .int (nI cn), .ref (b 6), .ref (b 7), .ref (b 8), .ref (b 9), .ref (b 10), .ref (b 11)]], [ia ty (b 3) 57 r], [la ty (b 8) 2 (tw x y)], [ia ty (b 5) 798 (shI 57 0 dd)], [la ty (b 10) 28 ds]]) s.heap := by rw [shI_0]; exact hP
      have hD : va_D A (fl [[ob (b 0) 9 [.int rf, .ref (b 1), .int tn, .int sp, .ref (b 2), .ref (b 3), .ref (b 4), .ref (b 5), .int (nI cn), .ref (b 6), .ref (b 7), .ref (b 8), .ref (b 9), .ref (b 10), .ref (b 11)]], [ia ty (b 3) 57 r], [la ty (b 8) 2 (tw x y)], [ia ty (b 5) 798 (shI 57 0 dd)], [la ty (b 10) 28 ds]]) := by rw [shI_0]; exact hD
      exact lp11 742 0 (rfl) (Nat.zero_le _) _ _ (show va_P D vwCl (fl [[ob (b 0) 9 [.int rf, .ref (b 1), .int tn, .int sp, .ref (b 2), .ref (b 3), .ref (b 4), .ref (b 5), .int (nI cn), .ref (b 6), .ref (b 7), .ref (b 8), .ref (b 9), .ref (b 10), .ref (b 11)]], [ia ty (b 3) 57 r], [la ty (b 8) 2 (tw x y)], [ia ty (b 5) 798 (shI 57 0 dd)], [la ty (b 10) 28 ds]]) _ from hP) hD hS _ (lv_sub hl [0, 1] rfl)
