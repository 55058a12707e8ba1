set_option maxHeartbeats 4000000 in
set_option maxRecDepth 100000 in
theorem c_X8_here (l : Launch) (D : va_G) (ty : Nat → ClassId) (h cod told : Nat) (cd : Nat → Int32) (ln pos na np nr : Nat) (hl6 : ln ≤ 60) (hp6 : pos < 2000) : CTi l yX8_here wsX8_here ({ frames := 0, cells := 0, slots := 0, locals := 0 }) D ty [.ref h] [[ob h 7 [.ref cod, .int (nI ln), .int (nI pos), .int (nI na), .int (nI np), .int (nI nr), .ref told]], [ia ty cod 60 cd]] (fun (RET : Int32) (_ : Unit) => RET = (hereV cd ln pos)) (fun (_ : Unit) => [[ob h 7 [.ref cod, .int (nI ln), .int (nI pos), .int (nI na), .int (nI np), .int (nI nr), .ref told]], [ia ty cod 60 cd]]) := by
  refine CTi_of cX8_here 1 (some .int) (by decide) rfl (Nat.le_of_ble_eq_true rfl) ?_
  intro p e s m args below meth c A hx hb hr hml hown hlocks hin hts hA hX hK hP hD ls hl
  have hown : s.vm.findClass RX8 = some m.cls := hown
  have hS : va_S A s.heap s.heap [] := va_S.rf
  have i_X8 : ∀ z ∈ wsX80, z ∈ wsX8_here := fun z h => List.mem_cons_of_mem _ (List.mem_append_right _ h)
  have hl : lv_has ls 1 [(0, .ref h)] := hl
  refine lv_aload_n hx hb dX8_here_0 rfl (lv_at hl 0 rfl) ?_
  refine va_get (D := D) (ci := 7) (v := .int (nI pos)) (C := RX8) (T := TX8) (N := 7) hx hb hts i_X8 hown hK hP 0 rfl rfl 2 (by decide) (hts (Cond.fieldLink RX8 35 "BrownClock$Text" "position" "I") (List.mem_of_getElem? (i := 1) rfl)) (fun _ h9 => h9) rfl dX8_here_1 ?_
  refine lv_aload_n hx hb dX8_here_4 rfl (lv_at hl 0 rfl) ?_
  refine va_get (D := D) (ci := 7) (v := .int (nI ln)) (C := RX8) (T := TX8) (N := 7) hx hb hts i_X8 hown hK hP 0 rfl rfl 1 (by decide) (hts (Cond.fieldLink RX8 19 "BrownClock$Text" "length" "I") (List.mem_of_getElem? (i := 2) rfl)) (fun _ h9 => h9) rfl dX8_here_5 ?_
  refine lv_icmp_ge (tgt := 23) hx hb dX8_here_8 (by decide) (fun c_1 => ?_) (fun c_1 => ?_)
  · skip
    refine lv_ldc hx hb hown (hts (Cond.constant RX8 41 (-99999999)) (List.mem_of_getElem? (i := 4) rfl)) dX8_here_23 ?_
    have hz8_0 := (nI_leI (a := ln) (b := pos) (by omega) (by omega)).mp c_1
    have hD : va_D A (fl [[ob h 7 [.ref cod, .int (nI ln), .int (nI pos), .int (nI na), .int (nI np), .int (nI nr), .ref told]], [ia ty cod 60 cd]]) := hD
    exact end_i (bs' := (fun (_ : Unit) => [[ob h 7 [.ref cod, .int (nI ln), .int (nI pos), .int (nI na), .int (nI np), .int (nI nr), .ref told]], [ia ty cod 60 cd]])) () hx hb hr hlocks hP hD hS (if_neg (by omega)).symm (Nat.le_of_ble_eq_true rfl) (Nat.le_of_ble_eq_true rfl) dX8_here_25
  · skip
    have hz8_0 := nle_of (a := ln) (b := pos) (by omega) (by omega) c_1
    refine lv_aload_n hx hb dX8_here_11 rfl (lv_at hl 0 rfl) ?_
    refine va_get (D := D) (ci := 7) (v := .ref cod) (C := RX8) (T := TX8) (N := 7) hx hb hts i_X8 hown hK hP 0 rfl rfl 0 (by decide) (hts (Cond.fieldLink RX8 9 "BrownClock$Text" "codes" "[I") (List.mem_of_getElem? (i := 3) rfl)) (fun _ h9 => h9) rfl dX8_here_12 ?_
    refine lv_aload_n hx hb dX8_here_15 rfl (lv_at hl 0 rfl) ?_
    refine va_get (D := D) (ci := 7) (v := .int (nI pos)) (C := RX8) (T := TX8) (N := 7) hx hb hts i_X8 hown hK hP 0 rfl rfl 2 (by decide) (hts (Cond.fieldLink RX8 35 "BrownClock$Text" "position" "I") (List.mem_of_getElem? (i := 1) rfl)) (fun _ h9 => h9) rfl dX8_here_16 ?_
    refine k_iald hx hb hK hP 1 rfl pos rfl (by omega) (Nat.le_of_ble_eq_true rfl) (v := cd pos) rfl dX8_here_19 ?_
    refine lv_goto (tgt := 25) hx hb dX8_here_20 (by decide) ?_
    have hz8_0 := nle_of (a := ln) (b := pos) (by omega) (by omega) c_1
    have hD : va_D A (fl [[ob h 7 [.ref cod, .int (nI ln), .int (nI pos), .int (nI na), .int (nI np), .int (nI nr), .ref told]], [ia ty cod 60 cd]]) := hD
    exact end_i (bs' := (fun (_ : Unit) => [[ob h 7 [.ref cod, .int (nI ln), .int (nI pos), .int (nI na), .int (nI np), .int (nI nr), .ref told]], [ia ty cod 60 cd]])) () hx hb hr hlocks hP hD hS (if_pos (by omega)).symm (Nat.le_of_ble_eq_true rfl) (Nat.le_of_ble_eq_true rfl) dX8_here_25
set_option maxHeartbeats 4000000 in
set_option maxRecDepth 100000 in
theorem c_X8_digitHere (l : Launch) (D : va_G) (ty : Nat → ClassId) (h cod told : Nat) (cd : Nat → Int32) (ln pos na np nr : Nat) (hl6 : ln ≤ 60) (hp6 : pos < 2000) : CTi l yX8_digitHere wsX8_digitHere ({ frames := 1, cells := 0, slots := 0, locals := 20 }) D ty [.ref h] [[ob h 7 [.ref cod, .int (nI ln), .int (nI pos), .int (nI na), .int (nI np), .int (nI nr), .ref told]], [ia ty cod 60 cd]] (fun (RET : Int32) (_ : Unit) => RET = (if isDig cd ln pos then nI (digN cd pos) else -99999999)) (fun (_ : Unit) => [[ob h 7 [.ref cod, .int (nI ln), .int (nI pos), .int (nI na), .int (nI np), .int (nI nr), .ref told]], [ia ty cod 60 cd]]) := by
  refine CTi_of cX8_digitHere 2 (some .int) (by decide) rfl (Nat.le_of_ble_eq_true rfl) ?_
  intro p e s m args below meth c A hx hb hr hml hown hlocks hin hts hA hX hK hP hD ls hl
  have hown : s.vm.findClass RX8 = some m.cls := hown
  have hS : va_S A s.heap s.heap [] := va_S.rf
  have hl : lv_has ls 2 [(0, .ref h)] := hl
  refine lv_aload_n hx hb dX8_digitHere_0 rfl (lv_at hl 0 rfl) ?_
  refine cVi (As := []) (rest := []) ⟨hx, hb, hml, hown, hts⟩ (c_X8_here l D ty h cod told cd ln pos na np nr (hl6) (hp6)) (cwV 0 hts gX8_digitHere_X8_here rfl rfl rfl (by decide +kernel) ⟨Nat.le_of_ble_eq_true rfl, Nat.le_of_ble_eq_true rfl⟩) hK hX hP hD hS hA (pk (bs := [[ob h 7 [.ref cod, .int (nI ln), .int (nI pos), .int (nI na), .int (nI np), .int (nI nr), .ref told]], [ia ty cod 60 cd]]) (bsc := [[ob h 7 [.ref cod, .int (nI ln), .int (nI pos), .int (nI na), .int (nI np), .int (nI nr), .ref told]], [ia ty cod 60 cd]]) (bsr := []) [0, 1] [] 2 rfl (by decide +kernel) rfl rfl) (ci := 7) rfl 0 rfl rfl hl.1 rfl (Nat.le_of_ble_eq_true rfl) dX8_digitHere_1 ⟨Nat.le_of_ble_eq_true rfl, Nat.le_of_ble_eq_true rfl⟩ (fun r_2 u_1 h_3 H locs hP hD hS => ?_)
  have h_3 : r_2 = (hereV cd ln pos) := h_3
  subst h_3
  have hP : va_P D vwCl (fl [[ob h 7 [.ref cod, .int (nI ln), .int (nI pos), .int (nI na), .int (nI np), .int (nI nr), .ref told]], [ia ty cod 60 cd]]) H := P_perm (po (bs := [[ob h 7 [.ref cod, .int (nI ln), .int (nI pos), .int (nI na), .int (nI np), .int (nI nr), .ref told]], [ia ty cod 60 cd]]) [0, 1] 2 rfl (by decide +kernel) rfl) hP
  have hD : va_D A (fl [[ob h 7 [.ref cod, .int (nI ln), .int (nI pos), .int (nI na), .int (nI np), .int (nI nr), .ref told]], [ia ty cod 60 cd]]) := D_perm (po (bs := [[ob h 7 [.ref cod, .int (nI ln), .int (nI pos), .int (nI na), .int (nI np), .int (nI nr), .ref told]], [ia ty cod 60 cd]]) [0, 1] 2 rfl (by decide +kernel) rfl) hD
  refine lv_istore_n (lv' := [(1, .int (hereV cd ln pos)), (0, .ref h)]) hx hb dX8_digitHere_4 rfl hl (by decide) rfl (fun ls hl => ?_)
  refine lv_iload_n hx hb dX8_digitHere_5 rfl (lv_at hl 0 rfl) ?_
  refine lv_bipush (v := 48) hx hb dX8_digitHere_6 (by decide) ?_
  refine lv_icmp_lt (tgt := 24) hx hb dX8_digitHere_8 (by decide) (fun c_4 => ?_) (fun c_4 => ?_)
  · skip
    refine lv_ldc hx hb hown (hts (Cond.constant RX8 41 (-99999999)) (List.mem_of_getElem? (i := 1) rfl)) dX8_digitHere_24 ?_
    have hP : va_P D vwCl (fl [[ob h 7 [.ref cod, .int (nI ln), .int (nI pos), .int (nI na), .int (nI np), .int (nI nr), .ref told]], [ia ty cod 60 cd]]) H := hP
    have hD : va_D A (fl [[ob h 7 [.ref cod, .int (nI ln), .int (nI pos), .int (nI na), .int (nI np), .int (nI nr), .ref told]], [ia ty cod 60 cd]]) := hD
    exact end_i (bs' := (fun (_ : Unit) => [[ob h 7 [.ref cod, .int (nI ln), .int (nI pos), .int (nI na), .int (nI np), .int (nI nr), .ref told]], [ia ty cod 60 cd]])) () hx hb hr hlocks hP hD hS (Eq.symm (if_neg (fun q => q.2.1 (by have h9 := c_4; rw [hereV, if_pos q.1] at h9; exact h9)))) (Nat.le_of_ble_eq_true rfl) (Nat.le_of_ble_eq_true rfl) dX8_digitHere_26
  · skip
    refine lv_iload_n hx hb dX8_digitHere_11 rfl (lv_at hl 0 rfl) ?_
    refine lv_bipush (v := 57) hx hb dX8_digitHere_12 (by decide) ?_
    refine lv_icmp_gt (tgt := 24) hx hb dX8_digitHere_14 (by decide) (fun c_5 => ?_) (fun c_5 => ?_)
    · skip
      refine lv_ldc hx hb hown (hts (Cond.constant RX8 41 (-99999999)) (List.mem_of_getElem? (i := 1) rfl)) dX8_digitHere_24 ?_
      have hP : va_P D vwCl (fl [[ob h 7 [.ref cod, .int (nI ln), .int (nI pos), .int (nI na), .int (nI np), .int (nI nr), .ref told]], [ia ty cod 60 cd]]) H := hP
      have hD : va_D A (fl [[ob h 7 [.ref cod, .int (nI ln), .int (nI pos), .int (nI na), .int (nI np), .int (nI nr), .ref told]], [ia ty cod 60 cd]]) := hD
      exact end_i (bs' := (fun (_ : Unit) => [[ob h 7 [.ref cod, .int (nI ln), .int (nI pos), .int (nI na), .int (nI np), .int (nI nr), .ref told]], [ia ty cod 60 cd]])) () hx hb hr hlocks hP hD hS (Eq.symm (if_neg (fun q => q.2.2 (by have h9 := c_5; rw [hereV, if_pos q.1] at h9; exact h9)))) (Nat.le_of_ble_eq_true rfl) (Nat.le_of_ble_eq_true rfl) dX8_digitHere_26
    · skip
      refine lv_iload_n hx hb dX8_digitHere_17 rfl (lv_at hl 0 rfl) ?_
      refine lv_bipush (v := 48) hx hb dX8_digitHere_18 (by decide) ?_
      refine k_isub (v := ((hereV cd ln pos) - 48)) hx hb dX8_digitHere_20 rfl ?_
      refine lv_goto (tgt := 26) hx hb dX8_digitHere_21 (by decide) ?_
      have hP : va_P D vwCl (fl [[ob h 7 [.ref cod, .int (nI ln), .int (nI pos), .int (nI na), .int (nI np), .int (nI nr), .ref told]], [ia ty cod 60 cd]]) H := hP
      have hD : va_D A (fl [[ob h 7 [.ref cod, .int (nI ln), .int (nI pos), .int (nI na), .int (nI np), .int (nI nr), .ref told]], [ia ty cod 60 cd]]) := hD
      exact end_i (bs' := (fun (_ : Unit) => [[ob h 7 [.ref cod, .int (nI ln), .int (nI pos), .int (nI na), .int (nI np), .int (nI nr), .ref told]], [ia ty cod 60 cd]])) () hx hb hr hlocks hP hD hS (by have hq : pos < ln := Classical.byContradiction fun q => c_4 (by rw [hereV, if_neg q]; decide); have hd : isDig cd ln pos := ⟨hq, by have h9 := c_4; rw [hereV, if_pos hq] at h9; exact h9, by have h9 := c_5; rw [hereV, if_pos hq] at h9; exact h9⟩; rw [if_pos hd, ← (dig_nI hd).1]; show hereV cd ln pos - 48 = _; rw [hereV, if_pos hq]) (Nat.le_of_ble_eq_true rfl) (Nat.le_of_ble_eq_true rfl) dX8_digitHere_26
set_option maxHeartbeats 4000000 in
set_option maxRecDepth 100000 in
theorem c_X8_add (l : Launch) (D : va_G) (ty : Nat → ClassId) (h cod told : Nat) (cd : Nat → Int32) (ln : Nat) (p9 z1 z2 z3 v9 : Int32) (hl6 : ln < 60) : CTv l yX8_add wsX8_add ({ frames := 0, cells := 0, slots := 0, locals := 0 }) D ty [.ref h, .int v9] [[ob h 7 [.ref cod, .int (nI ln), .int p9, .int z1, .int z2, .int z3, .ref told]], [ia ty cod 60 cd]] (fun (_ : Unit) => True) (fun (_ : Unit) => [[ob h 7 [.ref cod, .int (nI (ln + 1)), .int p9, .int z1, .int z2, .int z3, .ref told]], [ia ty cod 60 (upd cd ln v9)]]) := by
  refine CTv_of cX8_add 2 none (by decide) rfl (Nat.le_of_ble_eq_true rfl) ?_
  intro p e s m args below meth c A hx hb hr hml hown hlocks hin hts hA hX hK hP hD ls hl
  have hown : s.vm.findClass RX8 = some m.cls := hown
  have hS : va_S A s.heap s.heap [] := va_S.rf
  have i_X8 : ∀ z ∈ wsX80, z ∈ wsX8_add := fun z h => List.mem_cons_of_mem _ (List.mem_append_right _ h)
  have hl : lv_has ls 2 [(0, .ref h), (1, .int v9)] := hl
  refine lv_aload_n hx hb dX8_add_0 rfl (lv_at hl 0 rfl) ?_
  refine va_get (D := D) (ci := 7) (v := .int (nI ln)) (C := RX8) (T := TX8) (N := 7) hx hb hts i_X8 hown hK hP 0 rfl rfl 1 (by decide) (hts (Cond.fieldLink RX8 19 "BrownClock$Text" "length" "I") (List.mem_of_getElem? (i := 1) rfl)) (fun _ h9 => h9) rfl dX8_add_1 ?_
  refine lv_bipush (v := 60) hx hb dX8_add_4 (by decide) ?_
  refine lv_icmp_ge (tgt := 29) hx hb dX8_add_6 (by decide) (fun c_1 => ?_) (fun c_1 => ?_)
  · first | exact absurd c_1 (nI_ge (show ln < 60 from hl6) (by decide)) | exact absurd (nI_ge (show ln < 60 from hl6) (by decide)) c_1
  · skip
    refine lv_aload_n hx hb dX8_add_9 rfl (lv_at hl 0 rfl) ?_
    refine va_get (D := D) (ci := 7) (v := .ref cod) (C := RX8) (T := TX8) (N := 7) hx hb hts i_X8 hown hK hP 0 rfl rfl 0 (by decide) (hts (Cond.fieldLink RX8 9 "BrownClock$Text" "codes" "[I") (List.mem_of_getElem? (i := 2) rfl)) (fun _ h9 => h9) rfl dX8_add_10 ?_
    refine lv_aload_n hx hb dX8_add_13 rfl (lv_at hl 0 rfl) ?_
    refine va_get (D := D) (ci := 7) (v := .int (nI ln)) (C := RX8) (T := TX8) (N := 7) hx hb hts i_X8 hown hK hP 0 rfl rfl 1 (by decide) (hts (Cond.fieldLink RX8 19 "BrownClock$Text" "length" "I") (List.mem_of_getElem? (i := 1) rfl)) (fun _ h9 => h9) rfl dX8_add_14 ?_
    refine lv_iload_n hx hb dX8_add_17 rfl (lv_at hl 1 rfl) ?_
    refine k_iast hx hb hK hP hD hS 1 rfl ln rfl (by omega) (Nat.le_of_ble_eq_true rfl) dX8_add_18 (fun H locs hP hD hS => ?_)
    have hP : va_P D vwCl (fl [[ob h 7 [.ref cod, .int (nI ln), .int p9, .int z1, .int z2, .int z3, .ref told]], [ia ty cod 60 (upd cd ln v9)]]) H := hP
    have hD : va_D A (fl [[ob h 7 [.ref cod, .int (nI ln), .int p9, .int z1, .int z2, .int z3, .ref told]], [ia ty cod 60 (upd cd ln v9)]]) := hD
    refine lv_aload_n hx hb dX8_add_19 rfl (lv_at hl 0 rfl) ?_
    refine lv_dup hx hb dX8_add_20 rfl ?_
    refine va_get (D := D) (ci := 7) (v := .int (nI ln)) (C := RX8) (T := TX8) (N := 7) hx hb hts i_X8 hown hK hP 0 rfl rfl 1 (by decide) (hts (Cond.fieldLink RX8 19 "BrownClock$Text" "length" "I") (List.mem_of_getElem? (i := 1) rfl)) (fun _ h9 => h9) rfl dX8_add_21 ?_
    refine lv_iconst (v := 1) hx hb dX8_add_24 (by decide) ?_
    refine k_iadd (v := (nI (ln + 1))) hx hb dX8_add_25 (nI_add (ln) (1)) ?_
    refine va_put (D := D) (ci := 7) (v := .int (nI (ln + 1))) (ty := .int) (C := RX8) (T := TX8) (N := 7) hx hb hts i_X8 tyX8 tyX8_ok nmX8 hown hK hP hD hS 0 rfl rfl 1 (by decide) (hts (Cond.fieldLink RX8 19 "BrownClock$Text" "length" "I") (List.mem_of_getElem? (i := 1) rfl)) (fun _ h9 => h9) rfl (by decide +kernel) rfl rfl (Nat.le_of_ble_eq_true rfl) dX8_add_26 (fun H locs hP hD hS => ?_)
    have hP : va_P D vwCl (fl [[ob h 7 [.ref cod, .int (nI (ln + 1)), .int p9, .int z1, .int z2, .int z3, .ref told]], [ia ty cod 60 (upd cd ln v9)]]) H := hP
    have hD : va_D A (fl [[ob h 7 [.ref cod, .int (nI (ln + 1)), .int p9, .int z1, .int z2, .int z3, .ref told]], [ia ty cod 60 (upd cd ln v9)]]) := hD
    have hP : va_P D vwCl (fl [[ob h 7 [.ref cod, .int (nI (ln + 1)), .int p9, .int z1, .int z2, .int z3, .ref told]], [ia ty cod 60 (upd cd ln v9)]]) H := hP
    have hD : va_D A (fl [[ob h 7 [.ref cod, .int (nI (ln + 1)), .int p9, .int z1, .int z2, .int z3, .ref told]], [ia ty cod 60 (upd cd ln v9)]]) := hD
    exact end_v (bs' := (fun (_ : Unit) => [[ob h 7 [.ref cod, .int (nI (ln + 1)), .int p9, .int z1, .int z2, .int z3, .ref told]], [ia ty cod 60 (upd cd ln v9)]])) () hx hb hr hlocks hP hD hS trivial (Nat.le_of_ble_eq_true rfl) (Nat.le_of_ble_eq_true rfl) dX8_add_29
set_option maxHeartbeats 4000000 in
set_option maxRecDepth 100000 in
theorem c_X8_start (l : Launch) (D : va_G) (ty : Nat → ClassId) (h cod told : Nat) (l9 p9 n1 n2 n3 : Int32) (t : Nat → Int32) : CTv l yX8_start wsX8_start ({ frames := 0, cells := 0, slots := 0, locals := 0 }) D ty [.ref h] [[ob h 7 [.ref cod, .int l9, .int p9, .int n1, .int n2, .int n3, .ref told]], [za ty told 8 t]] (fun (_ : Unit) => True) (fun (_ : Unit) => [[ob h 7 [.ref cod, .int l9, .int 0, .int 0, .int 0, .int 0, .ref told]], [za ty told 8 (fun _ => 0)]]) := by
  refine CTv_of cX8_start 2 none (by decide) rfl (Nat.le_of_ble_eq_true rfl) ?_
  intro p e s m args below meth c A hx hb hr hml hown hlocks hin hts hA hX hK hP hD ls hl
  have hown : s.vm.findClass RX8 = some m.cls := hown
  have hS : va_S A s.heap s.heap [] := va_S.rf
  have i_X8 : ∀ z ∈ wsX80, z ∈ wsX8_start := fun z h => List.mem_cons_of_mem _ (List.mem_append_right _ h)
  have hl : lv_has ls 2 [(0, .ref h)] := hl
  refine lv_aload_n hx hb dX8_start_0 rfl (lv_at hl 0 rfl) ?_
  refine lv_iconst (v := 0) hx hb dX8_start_1 (by decide) ?_
  refine va_put (D := D) (ci := 7) (v := .int 0) (ty := .int) (C := RX8) (T := TX8) (N := 7) hx hb hts i_X8 tyX8 tyX8_ok nmX8 hown hK hP hD hS 0 rfl rfl 2 (by decide) (hts (Cond.fieldLink RX8 35 "BrownClock$Text" "position" "I") (List.mem_of_getElem? (i := 1) rfl)) (fun _ h9 => h9) rfl (by decide +kernel) rfl rfl (Nat.le_of_ble_eq_true rfl) dX8_start_2 (fun H locs hP hD hS => ?_)
  have hP : va_P D vwCl (fl [[ob h 7 [.ref cod, .int l9, .int 0, .int n1, .int n2, .int n3, .ref told]], [za ty told 8 t]]) H := hP
  have hD : va_D A (fl [[ob h 7 [.ref cod, .int l9, .int 0, .int n1, .int n2, .int n3, .ref told]], [za ty told 8 t]]) := hD
  refine lv_aload_n hx hb dX8_start_5 rfl (lv_at hl 0 rfl) ?_
  refine lv_iconst (v := 0) hx hb dX8_start_6 (by decide) ?_
  refine va_put (D := D) (ci := 7) (v := .int 0) (ty := .int) (C := RX8) (T := TX8) (N := 7) hx hb hts i_X8 tyX8 tyX8_ok nmX8 hown hK hP hD hS 0 rfl rfl 3 (by decide) (hts (Cond.fieldLink RX8 42 "BrownClock$Text" "alarmsTold" "I") (List.mem_of_getElem? (i := 2) rfl)) (fun _ h9 => h9) rfl (by decide +kernel) rfl rfl (Nat.le_of_ble_eq_true rfl) dX8_start_7 (fun H locs hP hD hS => ?_)
  have hP : va_P D vwCl (fl [[ob h 7 [.ref cod, .int l9, .int 0, .int 0, .int n2, .int n3, .ref told]], [za ty told 8 t]]) H := hP
  have hD : va_D A (fl [[ob h 7 [.ref cod, .int l9, .int 0, .int 0, .int n2, .int n3, .ref told]], [za ty told 8 t]]) := hD
  refine lv_aload_n hx hb dX8_start_10 rfl (lv_at hl 0 rfl) ?_
  refine lv_iconst (v := 0) hx hb dX8_start_11 (by decide) ?_
  refine va_put (D := D) (ci := 7) (v := .int 0) (ty := .int) (C := RX8) (T := TX8) (N := 7) hx hb hts i_X8 tyX8 tyX8_ok nmX8 hown hK hP hD hS 0 rfl rfl 4 (by decide) (hts (Cond.fieldLink RX8 45 "BrownClock$Text" "pinsTold" "I") (List.mem_of_getElem? (i := 3) rfl)) (fun _ h9 => h9) rfl (by decide +kernel) rfl rfl (Nat.le_of_ble_eq_true rfl) dX8_start_12 (fun H locs hP hD hS => ?_)
  have hP : va_P D vwCl (fl [[ob h 7 [.ref cod, .int l9, .int 0, .int 0, .int 0, .int n3, .ref told]], [za ty told 8 t]]) H := hP
  have hD : va_D A (fl [[ob h 7 [.ref cod, .int l9, .int 0, .int 0, .int 0, .int n3, .ref told]], [za ty told 8 t]]) := hD
  refine lv_aload_n hx hb dX8_start_15 rfl (lv_at hl 0 rfl) ?_
  refine lv_iconst (v := 0) hx hb dX8_start_16 (by decide) ?_
  refine va_put (D := D) (ci := 7) (v := .int 0) (ty := .int) (C := RX8) (T := TX8) (N := 7) hx hb hts i_X8 tyX8 tyX8_ok nmX8 hown hK hP hD hS 0 rfl rfl 5 (by decide) (hts (Cond.fieldLink RX8 48 "BrownClock$Text" "registersTold" "I") (List.mem_of_getElem? (i := 4) rfl)) (fun _ h9 => h9) rfl (by decide +kernel) rfl rfl (Nat.le_of_ble_eq_true rfl) dX8_start_17 (fun H locs hP hD hS => ?_)
  have hP : va_P D vwCl (fl [[ob h 7 [.ref cod, .int l9, .int 0, .int 0, .int 0, .int 0, .ref told]], [za ty told 8 t]]) H := hP
  have hD : va_D A (fl [[ob h 7 [.ref cod, .int l9, .int 0, .int 0, .int 0, .int 0, .ref told]], [za ty told 8 t]]) := hD
  refine lv_iconst (v := 0) hx hb dX8_start_20 (by decide) ?_
  refine lv_istore_n (lv' := [(1, .int 0), (0, .ref h)]) hx hb dX8_start_21 rfl hl (by decide) rfl (fun ls hl => ?_)
  refine lv_iload_n hx hb dX8_start_22 rfl (lv_at hl 0 rfl) ?_
  refine lv_aload_n hx hb dX8_start_23 rfl (lv_at hl 1 rfl) ?_
  refine va_get (D := D) (ci := 7) (v := .ref told) (C := RX8) (T := TX8) (N := 7) hx hb hts i_X8 hown hK hP 0 rfl rfl 6 (by decide) (hts (Cond.fieldLink RX8 15 "BrownClock$Text" "isRegisterTold" "[Z") (List.mem_of_getElem? (i := 5) rfl)) (fun _ h9 => h9) rfl dX8_start_24 ?_
  refine va_alen hx hb hK hP 1 2 rfl rfl (v := 8) rfl dX8_start_27 ?_
  refine lv_icmp_ge (tgt := 44) hx hb dX8_start_28 (by decide) (fun c_1 => ?_) (fun c_1 => ?_)
  · exact absurd c_1 (by decide)
  · skip
    refine lv_aload_n hx hb dX8_start_31 rfl (lv_at hl 1 rfl) ?_
    refine va_get (D := D) (ci := 7) (v := .ref told) (C := RX8) (T := TX8) (N := 7) hx hb hts i_X8 hown hK hP 0 rfl rfl 6 (by decide) (hts (Cond.fieldLink RX8 15 "BrownClock$Text" "isRegisterTold" "[Z") (List.mem_of_getElem? (i := 5) rfl)) (fun _ h9 => h9) rfl dX8_start_32 ?_
    refine lv_iload_n hx hb dX8_start_35 rfl (lv_at hl 0 rfl) ?_
    refine lv_iconst (v := 0) hx hb dX8_start_36 (by decide) ?_
    refine k_zast hx hb hK hP hD hS 1 rfl 0 rfl (by decide) (Nat.le_of_ble_eq_true rfl) rfl dX8_start_37 (fun H locs hP hD hS => ?_)
    have hP : va_P D vwCl (fl [[ob h 7 [.ref cod, .int l9, .int 0, .int 0, .int 0, .int 0, .ref told]], [za ty told 8 (upd t 0 0)]]) H := hP
    have hD : va_D A (fl [[ob h 7 [.ref cod, .int l9, .int 0, .int 0, .int 0, .int 0, .ref told]], [za ty told 8 (upd t 0 0)]]) := hD
    refine lv_iinc (v := 1) (lv' := [(1, .int 1), (0, .ref h)]) hx hb dX8_start_38 hl (k := 0) rfl (by decide) (by decide) rfl (fun ls hl => ?_)
    refine lv_goto (tgt := 22) hx hb dX8_start_41 (by decide) ?_
    refine lv_iload_n hx hb dX8_start_22 rfl (lv_at hl 0 rfl) ?_
    refine lv_aload_n hx hb dX8_start_23 rfl (lv_at hl 1 rfl) ?_
    refine va_get (D := D) (ci := 7) (v := .ref told) (C := RX8) (T := TX8) (N := 7) hx hb hts i_X8 hown hK hP 0 rfl rfl 6 (by decide) (hts (Cond.fieldLink RX8 15 "BrownClock$Text" "isRegisterTold" "[Z") (List.mem_of_getElem? (i := 5) rfl)) (fun _ h9 => h9) rfl dX8_start_24 ?_
    refine va_alen hx hb hK hP 1 2 rfl rfl (v := 8) rfl dX8_start_27 ?_
    refine lv_icmp_ge (tgt := 44) hx hb dX8_start_28 (by decide) (fun c_2 => ?_) (fun c_2 => ?_)
    · exact absurd c_2 (by decide)
    · skip
      refine lv_aload_n hx hb dX8_start_31 rfl (lv_at hl 1 rfl) ?_
      refine va_get (D := D) (ci := 7) (v := .ref told) (C := RX8) (T := TX8) (N := 7) hx hb hts i_X8 hown hK hP 0 rfl rfl 6 (by decide) (hts (Cond.fieldLink RX8 15 "BrownClock$Text" "isRegisterTold" "[Z") (List.mem_of_getElem? (i := 5) rfl)) (fun _ h9 => h9) rfl dX8_start_32 ?_
      refine lv_iload_n hx hb dX8_start_35 rfl (lv_at hl 0 rfl) ?_
      refine lv_iconst (v := 0) hx hb dX8_start_36 (by decide) ?_
      refine k_zast hx hb hK hP hD hS 1 rfl 1 rfl (by decide) (Nat.le_of_ble_eq_true rfl) rfl dX8_start_37 (fun H locs hP hD hS => ?_)
      have hP : va_P D vwCl (fl [[ob h 7 [.ref cod, .int l9, .int 0, .int 0, .int 0, .int 0, .ref told]], [za ty told 8 (upd (upd t 0 0) 1 0)]]) H := hP
      have hD : va_D A (fl [[ob h 7 [.ref cod, .int l9, .int 0, .int 0, .int 0, .int 0, .ref told]], [za ty told 8 (upd (upd t 0 0) 1 0)]]) := hD
      refine lv_iinc (v := 2) (lv' := [(1, .int 2), (0, .ref h)]) hx hb dX8_start_38 hl (k := 0) rfl (by decide) (by decide) rfl (fun ls hl => ?_)
      refine lv_goto (tgt := 22) hx hb dX8_start_41 (by decide) ?_
      refine lv_iload_n hx hb dX8_start_22 rfl (lv_at hl 0 rfl) ?_
      refine lv_aload_n hx hb dX8_start_23 rfl (lv_at hl 1 rfl) ?_
      refine va_get (D := D) (ci := 7) (v := .ref told) (C := RX8) (T := TX8) (N := 7) hx hb hts i_X8 hown hK hP 0 rfl rfl 6 (by decide) (hts (Cond.fieldLink RX8 15 "BrownClock$Text" "isRegisterTold" "[Z") (List.mem_of_getElem? (i := 5) rfl)) (fun _ h9 => h9) rfl dX8_start_24 ?_
      refine va_alen hx hb hK hP 1 2 rfl rfl (v := 8) rfl dX8_start_27 ?_
      refine lv_icmp_ge (tgt := 44) hx hb dX8_start_28 (by decide) (fun c_3 => ?_) (fun c_3 => ?_)
      · exact absurd c_3 (by decide)
      · skip
        refine lv_aload_n hx hb dX8_start_31 rfl (lv_at hl 1 rfl) ?_
        refine va_get (D := D) (ci := 7) (v := .ref told) (C := RX8) (T := TX8) (N := 7) hx hb hts i_X8 hown hK hP 0 rfl rfl 6 (by decide) (hts (Cond.fieldLink RX8 15 "BrownClock$Text" "isRegisterTold" "[Z") (List.mem_of_getElem? (i := 5) rfl)) (fun _ h9 => h9) rfl dX8_start_32 ?_
        refine lv_iload_n hx hb dX8_start_35 rfl (lv_at hl 0 rfl) ?_
        refine lv_iconst (v := 0) hx hb dX8_start_36 (by decide) ?_
        refine k_zast hx hb hK hP hD hS 1 rfl 2 rfl (by decide) (Nat.le_of_ble_eq_true rfl) rfl dX8_start_37 (fun H locs hP hD hS => ?_)
        have hP : va_P D vwCl (fl [[ob h 7 [.ref cod, .int l9, .int 0, .int 0, .int 0, .int 0, .ref told]], [za ty told 8 (upd (upd (upd t 0 0) 1 0) 2 0)]]) H := hP
        have hD : va_D A (fl [[ob h 7 [.ref cod, .int l9, .int 0, .int 0, .int 0, .int 0, .ref told]], [za ty told 8 (upd (upd (upd t 0 0) 1 0) 2 0)]]) := hD
        refine lv_iinc (v := 3) (lv' := [(1, .int 3), (0, .ref h)]) hx hb dX8_start_38 hl (k := 0) rfl (by decide) (by decide) rfl (fun ls hl => ?_)
        refine lv_goto (tgt := 22) hx hb dX8_start_41 (by decide) ?_
        refine lv_iload_n hx hb dX8_start_22 rfl (lv_at hl 0 rfl) ?_
        refine lv_aload_n hx hb dX8_start_23 rfl (lv_at hl 1 rfl) ?_
        refine va_get (D := D) (ci := 7) (v := .ref told) (C := RX8) (T := TX8) (N := 7) hx hb hts i_X8 hown hK hP 0 rfl rfl 6 (by decide) (hts (Cond.fieldLink RX8 15 "BrownClock$Text" "isRegisterTold" "[Z") (List.mem_of_getElem? (i := 5) rfl)) (fun _ h9 => h9) rfl dX8_start_24 ?_
        refine va_alen hx hb hK hP 1 2 rfl rfl (v := 8) rfl dX8_start_27 ?_
        refine lv_icmp_ge (tgt := 44) hx hb dX8_start_28 (by decide) (fun c_4 => ?_) (fun c_4 => ?_)
        · exact absurd c_4 (by decide)
        · skip
          refine lv_aload_n hx hb dX8_start_31 rfl (lv_at hl 1 rfl) ?_
          refine va_get (D := D) (ci := 7) (v := .ref told) (C := RX8) (T := TX8) (N := 7) hx hb hts i_X8 hown hK hP 0 rfl rfl 6 (by decide) (hts (Cond.fieldLink RX8 15 "BrownClock$Text" "isRegisterTold" "[Z") (List.mem_of_getElem? (i := 5) rfl)) (fun _ h9 => h9) rfl dX8_start_32 ?_
          refine lv_iload_n hx hb dX8_start_35 rfl (lv_at hl 0 rfl) ?_
          refine lv_iconst (v := 0) hx hb dX8_start_36 (by decide) ?_
          refine k_zast hx hb hK hP hD hS 1 rfl 3 rfl (by decide) (Nat.le_of_ble_eq_true rfl) rfl dX8_start_37 (fun H locs hP hD hS => ?_)
          have hP : va_P D vwCl (fl [[ob h 7 [.ref cod, .int l9, .int 0, .int 0, .int 0, .int 0, .ref told]], [za ty told 8 (upd (upd (upd (upd t 0 0) 1 0) 2 0) 3 0)]]) H := hP
          have hD : va_D A (fl [[ob h 7 [.ref cod, .int l9, .int 0, .int 0, .int 0, .int 0, .ref told]], [za ty told 8 (upd (upd (upd (upd t 0 0) 1 0) 2 0) 3 0)]]) := hD
          refine lv_iinc (v := 4) (lv' := [(1, .int 4), (0, .ref h)]) hx hb dX8_start_38 hl (k := 0) rfl (by decide) (by decide) rfl (fun ls hl => ?_)
          refine lv_goto (tgt := 22) hx hb dX8_start_41 (by decide) ?_
          refine lv_iload_n hx hb dX8_start_22 rfl (lv_at hl 0 rfl) ?_
          refine lv_aload_n hx hb dX8_start_23 rfl (lv_at hl 1 rfl) ?_
          refine va_get (D := D) (ci := 7) (v := .ref told) (C := RX8) (T := TX8) (N := 7) hx hb hts i_X8 hown hK hP 0 rfl rfl 6 (by decide) (hts (Cond.fieldLink RX8 15 "BrownClock$Text" "isRegisterTold" "[Z") (List.mem_of_getElem? (i := 5) rfl)) (fun _ h9 => h9) rfl dX8_start_24 ?_
          refine va_alen hx hb hK hP 1 2 rfl rfl (v := 8) rfl dX8_start_27 ?_
          refine lv_icmp_ge (tgt := 44) hx hb dX8_start_28 (by decide) (fun c_5 => ?_) (fun c_5 => ?_)
          · exact absurd c_5 (by decide)
          · skip
            refine lv_aload_n hx hb dX8_start_31 rfl (lv_at hl 1 rfl) ?_
            refine va_get (D := D) (ci := 7) (v := .ref told) (C := RX8) (T := TX8) (N := 7) hx hb hts i_X8 hown hK hP 0 rfl rfl 6 (by decide) (hts (Cond.fieldLink RX8 15 "BrownClock$Text" "isRegisterTold" "[Z") (List.mem_of_getElem? (i := 5) rfl)) (fun _ h9 => h9) rfl dX8_start_32 ?_
            refine lv_iload_n hx hb dX8_start_35 rfl (lv_at hl 0 rfl) ?_
            refine lv_iconst (v := 0) hx hb dX8_start_36 (by decide) ?_
            refine k_zast hx hb hK hP hD hS 1 rfl 4 rfl (by decide) (Nat.le_of_ble_eq_true rfl) rfl dX8_start_37 (fun H locs hP hD hS => ?_)
            have hP : va_P D vwCl (fl [[ob h 7 [.ref cod, .int l9, .int 0, .int 0, .int 0, .int 0, .ref told]], [za ty told 8 (upd (upd (upd (upd (upd t 0 0) 1 0) 2 0) 3 0) 4 0)]]) H := hP
            have hD : va_D A (fl [[ob h 7 [.ref cod, .int l9, .int 0, .int 0, .int 0, .int 0, .ref told]], [za ty told 8 (upd (upd (upd (upd (upd t 0 0) 1 0) 2 0) 3 0) 4 0)]]) := hD
            refine lv_iinc (v := 5) (lv' := [(1, .int 5), (0, .ref h)]) hx hb dX8_start_38 hl (k := 0) rfl (by decide) (by decide) rfl (fun ls hl => ?_)
            refine lv_goto (tgt := 22) hx hb dX8_start_41 (by decide) ?_
            refine lv_iload_n hx hb dX8_start_22 rfl (lv_at hl 0 rfl) ?_
            refine lv_aload_n hx hb dX8_start_23 rfl (lv_at hl 1 rfl) ?_
            refine va_get (D := D) (ci := 7) (v := .ref told) (C := RX8) (T := TX8) (N := 7) hx hb hts i_X8 hown hK hP 0 rfl rfl 6 (by decide) (hts (Cond.fieldLink RX8 15 "BrownClock$Text" "isRegisterTold" "[Z") (List.mem_of_getElem? (i := 5) rfl)) (fun _ h9 => h9) rfl dX8_start_24 ?_
            refine va_alen hx hb hK hP 1 2 rfl rfl (v := 8) rfl dX8_start_27 ?_
            refine lv_icmp_ge (tgt := 44) hx hb dX8_start_28 (by decide) (fun c_6 => ?_) (fun c_6 => ?_)
            · exact absurd c_6 (by decide)
            · skip
              refine lv_aload_n hx hb dX8_start_31 rfl (lv_at hl 1 rfl) ?_
              refine va_get (D := D) (ci := 7) (v := .ref told) (C := RX8) (T := TX8) (N := 7) hx hb hts i_X8 hown hK hP 0 rfl rfl 6 (by decide) (hts (Cond.fieldLink RX8 15 "BrownClock$Text" "isRegisterTold" "[Z") (List.mem_of_getElem? (i := 5) rfl)) (fun _ h9 => h9) rfl dX8_start_32 ?_
              refine lv_iload_n hx hb dX8_start_35 rfl (lv_at hl 0 rfl) ?_
              refine lv_iconst (v := 0) hx hb dX8_start_36 (by decide) ?_
              refine k_zast hx hb hK hP hD hS 1 rfl 5 rfl (by decide) (Nat.le_of_ble_eq_true rfl) rfl dX8_start_37 (fun H locs hP hD hS => ?_)
              have hP : va_P D vwCl (fl [[ob h 7 [.ref cod, .int l9, .int 0, .int 0, .int 0, .int 0, .ref told]], [za ty told 8 (upd (upd (upd (upd (upd (upd t 0 0) 1 0) 2 0) 3 0) 4 0) 5 0)]]) H := hP
              have hD : va_D A (fl [[ob h 7 [.ref cod, .int l9, .int 0, .int 0, .int 0, .int 0, .ref told]], [za ty told 8 (upd (upd (upd (upd (upd (upd t 0 0) 1 0) 2 0) 3 0) 4 0) 5 0)]]) := hD
              refine lv_iinc (v := 6) (lv' := [(1, .int 6), (0, .ref h)]) hx hb dX8_start_38 hl (k := 0) rfl (by decide) (by decide) rfl (fun ls hl => ?_)
              refine lv_goto (tgt := 22) hx hb dX8_start_41 (by decide) ?_
              refine lv_iload_n hx hb dX8_start_22 rfl (lv_at hl 0 rfl) ?_
              refine lv_aload_n hx hb dX8_start_23 rfl (lv_at hl 1 rfl) ?_
              refine va_get (D := D) (ci := 7) (v := .ref told) (C := RX8) (T := TX8) (N := 7) hx hb hts i_X8 hown hK hP 0 rfl rfl 6 (by decide) (hts (Cond.fieldLink RX8 15 "BrownClock$Text" "isRegisterTold" "[Z") (List.mem_of_getElem? (i := 5) rfl)) (fun _ h9 => h9) rfl dX8_start_24 ?_
              refine va_alen hx hb hK hP 1 2 rfl rfl (v := 8) rfl dX8_start_27 ?_
              refine lv_icmp_ge (tgt := 44) hx hb dX8_start_28 (by decide) (fun c_7 => ?_) (fun c_7 => ?_)
              · exact absurd c_7 (by decide)
              · skip
                refine lv_aload_n hx hb dX8_start_31 rfl (lv_at hl 1 rfl) ?_
                refine va_get (D := D) (ci := 7) (v := .ref told) (C := RX8) (T := TX8) (N := 7) hx hb hts i_X8 hown hK hP 0 rfl rfl 6 (by decide) (hts (Cond.fieldLink RX8 15 "BrownClock$Text" "isRegisterTold" "[Z") (List.mem_of_getElem? (i := 5) rfl)) (fun _ h9 => h9) rfl dX8_start_32 ?_
                refine lv_iload_n hx hb dX8_start_35 rfl (lv_at hl 0 rfl) ?_
                refine lv_iconst (v := 0) hx hb dX8_start_36 (by decide) ?_
                refine k_zast hx hb hK hP hD hS 1 rfl 6 rfl (by decide) (Nat.le_of_ble_eq_true rfl) rfl dX8_start_37 (fun H locs hP hD hS => ?_)
                have hP : va_P D vwCl (fl [[ob h 7 [.ref cod, .int l9, .int 0, .int 0, .int 0, .int 0, .ref told]], [za ty told 8 (upd (upd (upd (upd (upd (upd (upd t 0 0) 1 0) 2 0) 3 0) 4 0) 5 0) 6 0)]]) H := hP
                have hD : va_D A (fl [[ob h 7 [.ref cod, .int l9, .int 0, .int 0, .int 0, .int 0, .ref told]], [za ty told 8 (upd (upd (upd (upd (upd (upd (upd t 0 0) 1 0) 2 0) 3 0) 4 0) 5 0) 6 0)]]) := hD
                refine lv_iinc (v := 7) (lv' := [(1, .int 7), (0, .ref h)]) hx hb dX8_start_38 hl (k := 0) rfl (by decide) (by decide) rfl (fun ls hl => ?_)
                refine lv_goto (tgt := 22) hx hb dX8_start_41 (by decide) ?_
                refine lv_iload_n hx hb dX8_start_22 rfl (lv_at hl 0 rfl) ?_
                refine lv_aload_n hx hb dX8_start_23 rfl (lv_at hl 1 rfl) ?_
                refine va_get (D := D) (ci := 7) (v := .ref told) (C := RX8) (T := TX8) (N := 7) hx hb hts i_X8 hown hK hP 0 rfl rfl 6 (by decide) (hts (Cond.fieldLink RX8 15 "BrownClock$Text" "isRegisterTold" "[Z") (List.mem_of_getElem? (i := 5) rfl)) (fun _ h9 => h9) rfl dX8_start_24 ?_
                refine va_alen hx hb hK hP 1 2 rfl rfl (v := 8) rfl dX8_start_27 ?_
                refine lv_icmp_ge (tgt := 44) hx hb dX8_start_28 (by decide) (fun c_8 => ?_) (fun c_8 => ?_)
                · exact absurd c_8 (by decide)
                · skip
                  refine lv_aload_n hx hb dX8_start_31 rfl (lv_at hl 1 rfl) ?_
                  refine va_get (D := D) (ci := 7) (v := .ref told) (C := RX8) (T := TX8) (N := 7) hx hb hts i_X8 hown hK hP 0 rfl rfl 6 (by decide) (hts (Cond.fieldLink RX8 15 "BrownClock$Text" "isRegisterTold" "[Z") (List.mem_of_getElem? (i := 5) rfl)) (fun _ h9 => h9) rfl dX8_start_32 ?_
                  refine lv_iload_n hx hb dX8_start_35 rfl (lv_at hl 0 rfl) ?_
                  refine lv_iconst (v := 0) hx hb dX8_start_36 (by decide) ?_
                  refine k_zast hx hb hK hP hD hS 1 rfl 7 rfl (by decide) (Nat.le_of_ble_eq_true rfl) rfl dX8_start_37 (fun H locs hP hD hS => ?_)
                  have hP : va_P D vwCl (fl [[ob h 7 [.ref cod, .int l9, .int 0, .int 0, .int 0, .int 0, .ref told]], [za ty told 8 (upd (upd (upd (upd (upd (upd (upd (upd t 0 0) 1 0) 2 0) 3 0) 4 0) 5 0) 6 0) 7 0)]]) H := hP
                  have hD : va_D A (fl [[ob h 7 [.ref cod, .int l9, .int 0, .int 0, .int 0, .int 0, .ref told]], [za ty told 8 (upd (upd (upd (upd (upd (upd (upd (upd t 0 0) 1 0) 2 0) 3 0) 4 0) 5 0) 6 0) 7 0)]]) := hD
                  refine lv_iinc (v := 8) (lv' := [(1, .int 8), (0, .ref h)]) hx hb dX8_start_38 hl (k := 0) rfl (by decide) (by decide) rfl (fun ls hl => ?_)
                  refine lv_goto (tgt := 22) hx hb dX8_start_41 (by decide) ?_
                  refine lv_iload_n hx hb dX8_start_22 rfl (lv_at hl 0 rfl) ?_
                  refine lv_aload_n hx hb dX8_start_23 rfl (lv_at hl 1 rfl) ?_
                  refine va_get (D := D) (ci := 7) (v := .ref told) (C := RX8) (T := TX8) (N := 7) hx hb hts i_X8 hown hK hP 0 rfl rfl 6 (by decide) (hts (Cond.fieldLink RX8 15 "BrownClock$Text" "isRegisterTold" "[Z") (List.mem_of_getElem? (i := 5) rfl)) (fun _ h9 => h9) rfl dX8_start_24 ?_
                  refine va_alen hx hb hK hP 1 2 rfl rfl (v := 8) rfl dX8_start_27 ?_
                  refine lv_icmp_ge (tgt := 44) hx hb dX8_start_28 (by decide) (fun c_9 => ?_) (fun c_9 => ?_)
                  · skip
                    have hP : va_P D vwCl (fl [[ob h 7 [.ref cod, .int l9, .int 0, .int 0, .int 0, .int 0, .ref told]], [za ty told 8 (fun _ => 0)]]) H := by
                      obtain ⟨z0, hP⟩ := P_cons.mp hP
                      obtain ⟨z1, hP⟩ := P_cons.mp hP
                      exact P_cons.mpr ⟨z0, P_cons.mpr ⟨at_za (fun k hk => by match k, hk with | 0, _ => rfl | 1, _ => rfl | 2, _ => rfl | 3, _ => rfl | 4, _ => rfl | 5, _ => rfl | 6, _ => rfl | 7, _ => rfl) z1, hP⟩⟩
                    have hD : va_D A (fl [[ob h 7 [.ref cod, .int l9, .int 0, .int 0, .int 0, .int 0, .ref told]], [za ty told 8 (fun _ => 0)]]) := (D_same2 hD [h, told] rfl rfl)
                    exact end_v (bs' := (fun (_ : Unit) => [[ob h 7 [.ref cod, .int l9, .int 0, .int 0, .int 0, .int 0, .ref told]], [za ty told 8 (fun _ => 0)]])) () hx hb hr hlocks hP hD hS trivial (Nat.le_of_ble_eq_true rfl) (Nat.le_of_ble_eq_true rfl) dX8_start_44
                  · exact absurd (by decide) c_9
