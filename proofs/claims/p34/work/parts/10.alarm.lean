set_option maxHeartbeats 4000000 in
set_option maxRecDepth 100000 in
theorem c_X0_init (l : Launch) (D : va_G) (ty : Nat → ClassId) (h : Nat) (m1 w1 k1 : Int32) : CTv l yX0_init wsX0_init ({ frames := 1, cells := 0, slots := 0, locals := 20 }) D ty [.ref h] [[ob h 0 [.int m1, .int w1, .int k1]]] (fun (_ : Unit) => True) (fun (_ : Unit) => [[ob h 0 [.int m1, .int w1, .int k1]]]) := by
  refine CTv_of cX0_init 1 none (by decide) rfl (Nat.le_of_ble_eq_true rfl) ?_
  intro p e s m args below meth c A hx hb hr hml hown hlocks hin hts hA hX hK hP hD ls hl
  have hown : s.vm.findClass RX0 = some m.cls := hown
  have hS : va_S A s.heap s.heap [] := va_S.rf
  have hl : lv_has ls 1 [(0, .ref h)] := hl
  refine lv_aload_n hx hb dX0_init_0 rfl (lv_at hl 0 rfl) ?_
  refine W.objInit hx hb hown (hts (Cond.methodLink RX0 3 objectInit) (List.mem_of_getElem? (i := 1) rfl)) (hts (Cond.instanceMethod objectInit) (List.mem_of_getElem? (i := 2) rfl)) (hts _ (List.mem_of_getElem? (i := 3) rfl)) rfl (by rw [hml]; exact hl.1) rfl dX0_init_1 (Nat.le_of_ble_eq_true rfl) (Nat.le_of_ble_eq_true rfl) ?_
  refine W.eq (g2 := F0 m 4 ls []) rfl ?_
  have hP : va_P D vwCl (fl [[ob h 0 [.int m1, .int w1, .int k1]]]) s.heap := hP
  have hD : va_D A (fl [[ob h 0 [.int m1, .int w1, .int k1]]]) := hD
  exact end_v (bs' := (fun (_ : Unit) => [[ob h 0 [.int m1, .int w1, .int k1]]])) () hx hb hr hlocks hP hD hS trivial (Nat.le_of_ble_eq_true rfl) (Nat.le_of_ble_eq_true rfl) dX0_init_4
set_option maxHeartbeats 4000000 in
set_option maxRecDepth 100000 in
theorem c_X0_setTo (l : Launch) (D : va_G) (ty : Nat → ClassId) (h : Nat) (v m1 w1 k1 : Int32) : CTv l yX0_setTo wsX0_setTo ({ frames := 0, cells := 0, slots := 0, locals := 0 }) D ty [.ref h, .int v] [[ob h 0 [.int m1, .int w1, .int k1]]] (fun (_ : Unit) => True) (fun (_ : Unit) => [[ob h 0 [.int v, .int 0, .int k1]]]) := by
  refine CTv_of cX0_setTo 2 none (by decide) rfl (Nat.le_of_ble_eq_true rfl) ?_
  intro p e s m args below meth c A hx hb hr hml hown hlocks hin hts hA hX hK hP hD ls hl
  have hown : s.vm.findClass RX0 = some m.cls := hown
  have hS : va_S A s.heap s.heap [] := va_S.rf
  have i_X0 : ∀ z ∈ wsX00, z ∈ wsX0_setTo := fun z h => List.mem_cons_of_mem _ (List.mem_append_right _ h)
  have hl : lv_has ls 2 [(0, .ref h), (1, .int v)] := hl
  refine lv_aload_n hx hb dX0_setTo_0 rfl (lv_at hl 0 rfl) ?_
  refine lv_iload_n hx hb dX0_setTo_1 rfl (lv_at hl 1 rfl) ?_
  refine va_put (D := D) (ci := 0) (v := .int v) (ty := .int) (C := RX0) (T := TX0) (N := 3) hx hb hts i_X0 tyX0 tyX0_ok nmX0 hown hK hP hD hS 0 rfl rfl 0 (by decide) (hts (Cond.fieldLink RX0 20 "BrownClock$Alarm" "minute" "I") (List.mem_of_getElem? (i := 1) rfl)) (fun _ h9 => h9) rfl (by decide +kernel) rfl rfl (Nat.le_of_ble_eq_true rfl) dX0_setTo_2 (fun H locs hP hD hS => ?_)
  have hP : va_P D vwCl (fl [[ob h 0 [.int v, .int w1, .int k1]]]) H := hP
  have hD : va_D A (fl [[ob h 0 [.int v, .int w1, .int k1]]]) := hD
  refine lv_aload_n hx hb dX0_setTo_5 rfl (lv_at hl 0 rfl) ?_
  refine lv_iconst (v := 0) hx hb dX0_setTo_6 (by decide) ?_
  refine va_put (D := D) (ci := 0) (v := .int 0) (ty := .boolean) (C := RX0) (T := TX0) (N := 3) hx hb hts i_X0 tyX0 tyX0_ok nmX0 hown hK hP hD hS 0 rfl rfl 1 (by decide) (hts (Cond.fieldLink RX0 23 "BrownClock$Alarm" "waits" "Z") (List.mem_of_getElem? (i := 2) rfl)) (fun _ h9 => h9) rfl (by decide +kernel) rfl rfl (Nat.le_of_ble_eq_true rfl) dX0_setTo_7 (fun H locs hP hD hS => ?_)
  have hP : va_P D vwCl (fl [[ob h 0 [.int v, .int 0, .int k1]]]) H := hP
  have hD : va_D A (fl [[ob h 0 [.int v, .int 0, .int k1]]]) := hD
  have hP : va_P D vwCl (fl [[ob h 0 [.int v, .int 0, .int k1]]]) H := hP
  have hD : va_D A (fl [[ob h 0 [.int v, .int 0, .int k1]]]) := hD
  exact end_v (bs' := (fun (_ : Unit) => [[ob h 0 [.int v, .int 0, .int k1]]])) () hx hb hr hlocks hP hD hS trivial (Nat.le_of_ble_eq_true rfl) (Nat.le_of_ble_eq_true rfl) dX0_setTo_10
set_option maxHeartbeats 4000000 in
set_option maxRecDepth 100000 in
theorem c_X0_reset (l : Launch) (D : va_G) (ty : Nat → ClassId) (h : Nat) (m1 w1 k1 : Int32) : CTv l yX0_reset wsX0_reset ({ frames := 1, cells := 0, slots := 0, locals := 21 }) D ty [.ref h] [[ob h 0 [.int m1, .int w1, .int k1]]] (fun (_ : Unit) => True) (fun (_ : Unit) => [[ob h 0 [.int (-99999999), .int 0, .int 0]]]) := by
  refine CTv_of cX0_reset 1 none (by decide) rfl (Nat.le_of_ble_eq_true rfl) ?_
  intro p e s m args below meth c A hx hb hr hml hown hlocks hin hts hA hX hK hP hD ls hl
  have hown : s.vm.findClass RX0 = some m.cls := hown
  have hS : va_S A s.heap s.heap [] := va_S.rf
  have i_X0 : ∀ z ∈ wsX00, z ∈ wsX0_reset := fun z h => List.mem_cons_of_mem _ (List.mem_append_right _ h)
  have hl : lv_has ls 1 [(0, .ref h)] := hl
  refine lv_aload_n hx hb dX0_reset_0 rfl (lv_at hl 0 rfl) ?_
  refine lv_ldc hx hb hown (hts (Cond.constant RX0 9 (-99999999)) (List.mem_of_getElem? (i := 1) rfl)) dX0_reset_1 ?_
  refine cVv (As := [.int (-99999999)]) (rest := []) ⟨hx, hb, hml, hown, hts⟩ (c_X0_setTo l D ty h (-99999999) m1 w1 k1) (cwV 1 hts gX0_reset_X0_setTo rfl rfl rfl (by decide +kernel) ⟨Nat.le_of_ble_eq_true rfl, Nat.le_of_ble_eq_true rfl⟩) hK hX hP hD hS hA (pk (bs := [[ob h 0 [.int m1, .int w1, .int k1]]]) (bsc := [[ob h 0 [.int m1, .int w1, .int k1]]]) (bsr := []) [0] [] 1 rfl (by decide +kernel) rfl rfl) (ci := 0) rfl 0 rfl rfl hl.1 rfl (Nat.le_of_ble_eq_true rfl) dX0_reset_3 ⟨Nat.le_of_ble_eq_true rfl, Nat.le_of_ble_eq_true rfl⟩ (fun u_1 h_3 H locs hP hD hS => ?_)
  have hP : va_P D vwCl (fl [[ob h 0 [.int (-99999999), .int 0, .int k1]]]) H := P_perm (po (bs := [[ob h 0 [.int (-99999999), .int 0, .int k1]]]) [0] 1 rfl (by decide +kernel) rfl) hP
  have hD : va_D A (fl [[ob h 0 [.int (-99999999), .int 0, .int k1]]]) := D_perm (po (bs := [[ob h 0 [.int (-99999999), .int 0, .int k1]]]) [0] 1 rfl (by decide +kernel) rfl) hD
  refine lv_aload_n hx hb dX0_reset_6 rfl (lv_at hl 0 rfl) ?_
  refine lv_iconst (v := 0) hx hb dX0_reset_7 (by decide) ?_
  refine va_put (D := D) (ci := 0) (v := .int 0) (ty := .int) (C := RX0) (T := TX0) (N := 3) hx hb hts i_X0 tyX0 tyX0_ok nmX0 hown hK hP hD hS 0 rfl rfl 2 (by decide) (hts (Cond.fieldLink RX0 16 "BrownClock$Alarm" "rings" "I") (List.mem_of_getElem? (i := 2) rfl)) (fun _ h9 => h9) rfl (by decide +kernel) rfl rfl (Nat.le_of_ble_eq_true rfl) dX0_reset_8 (fun H locs hP hD hS => ?_)
  have hP : va_P D vwCl (fl [[ob h 0 [.int (-99999999), .int 0, .int 0]]]) H := hP
  have hD : va_D A (fl [[ob h 0 [.int (-99999999), .int 0, .int 0]]]) := hD
  have hP : va_P D vwCl (fl [[ob h 0 [.int (-99999999), .int 0, .int 0]]]) H := hP
  have hD : va_D A (fl [[ob h 0 [.int (-99999999), .int 0, .int 0]]]) := hD
  exact end_v (bs' := (fun (_ : Unit) => [[ob h 0 [.int (-99999999), .int 0, .int 0]]])) () hx hb hr hlocks hP hD hS trivial (Nat.le_of_ble_eq_true rfl) (Nat.le_of_ble_eq_true rfl) dX0_reset_11
set_option maxHeartbeats 4000000 in
set_option maxRecDepth 100000 in
theorem c_X0_copyFrom (l : Launch) (D : va_G) (ty : Nat → ClassId) (h q : Nat) (m1 w1 k1 m2 w2 k2 : Int32) : CTv l yX0_copyFrom wsX0_copyFrom ({ frames := 0, cells := 0, slots := 0, locals := 0 }) D ty [.ref h, .ref q] [[ob h 0 [.int m1, .int w1, .int k1]], [ob q 0 [.int m2, .int (bz w2), .int k2]]] (fun (_ : Unit) => True) (fun (_ : Unit) => [[ob h 0 [.int m2, .int (bz w2), .int k2]], [ob q 0 [.int m2, .int (bz w2), .int k2]]]) := by
  refine CTv_of cX0_copyFrom 2 none (by decide) rfl (Nat.le_of_ble_eq_true rfl) ?_
  intro p e s m args below meth c A hx hb hr hml hown hlocks hin hts hA hX hK hP hD ls hl
  have hown : s.vm.findClass RX0 = some m.cls := hown
  have hS : va_S A s.heap s.heap [] := va_S.rf
  have i_X0 : ∀ z ∈ wsX00, z ∈ wsX0_copyFrom := fun z h => List.mem_cons_of_mem _ (List.mem_append_right _ h)
  have hl : lv_has ls 2 [(0, .ref h), (1, .ref q)] := hl
  refine lv_aload_n hx hb dX0_copyFrom_0 rfl (lv_at hl 0 rfl) ?_
  refine lv_aload_n hx hb dX0_copyFrom_1 rfl (lv_at hl 1 rfl) ?_
  refine va_get (D := D) (ci := 0) (v := .int m2) (C := RX0) (T := TX0) (N := 3) hx hb hts i_X0 hown hK hP 1 rfl rfl 0 (by decide) (hts (Cond.fieldLink RX0 20 "BrownClock$Alarm" "minute" "I") (List.mem_of_getElem? (i := 1) rfl)) (fun _ h9 => h9) rfl dX0_copyFrom_2 ?_
  refine va_put (D := D) (ci := 0) (v := .int m2) (ty := .int) (C := RX0) (T := TX0) (N := 3) hx hb hts i_X0 tyX0 tyX0_ok nmX0 hown hK hP hD hS 0 rfl rfl 0 (by decide) (hts (Cond.fieldLink RX0 20 "BrownClock$Alarm" "minute" "I") (List.mem_of_getElem? (i := 1) rfl)) (fun _ h9 => h9) rfl (by decide +kernel) rfl rfl (Nat.le_of_ble_eq_true rfl) dX0_copyFrom_5 (fun H locs hP hD hS => ?_)
  have hP : va_P D vwCl (fl [[ob h 0 [.int m2, .int w1, .int k1]], [ob q 0 [.int m2, .int (bz w2), .int k2]]]) H := hP
  have hD : va_D A (fl [[ob h 0 [.int m2, .int w1, .int k1]], [ob q 0 [.int m2, .int (bz w2), .int k2]]]) := hD
  refine lv_aload_n hx hb dX0_copyFrom_8 rfl (lv_at hl 0 rfl) ?_
  refine lv_aload_n hx hb dX0_copyFrom_9 rfl (lv_at hl 1 rfl) ?_
  refine va_get (D := D) (ci := 0) (v := .int (bz w2)) (C := RX0) (T := TX0) (N := 3) hx hb hts i_X0 hown hK hP 1 rfl rfl 1 (by decide) (hts (Cond.fieldLink RX0 23 "BrownClock$Alarm" "waits" "Z") (List.mem_of_getElem? (i := 2) rfl)) (fun _ h9 => h9) rfl dX0_copyFrom_10 ?_
  refine va_put (D := D) (ci := 0) (v := .int (bz w2)) (ty := .boolean) (C := RX0) (T := TX0) (N := 3) hx hb hts i_X0 tyX0 tyX0_ok nmX0 hown hK hP hD hS 0 rfl rfl 1 (by decide) (hts (Cond.fieldLink RX0 23 "BrownClock$Alarm" "waits" "Z") (List.mem_of_getElem? (i := 2) rfl)) (fun _ h9 => h9) rfl (by decide +kernel) (bz_nar _) (bz_fit _) (Nat.le_of_ble_eq_true rfl) dX0_copyFrom_13 (fun H locs hP hD hS => ?_)
  have hP : va_P D vwCl (fl [[ob h 0 [.int m2, .int (bz w2), .int k1]], [ob q 0 [.int m2, .int (bz w2), .int k2]]]) H := hP
  have hD : va_D A (fl [[ob h 0 [.int m2, .int (bz w2), .int k1]], [ob q 0 [.int m2, .int (bz w2), .int k2]]]) := hD
  refine lv_aload_n hx hb dX0_copyFrom_16 rfl (lv_at hl 0 rfl) ?_
  refine lv_aload_n hx hb dX0_copyFrom_17 rfl (lv_at hl 1 rfl) ?_
  refine va_get (D := D) (ci := 0) (v := .int k2) (C := RX0) (T := TX0) (N := 3) hx hb hts i_X0 hown hK hP 1 rfl rfl 2 (by decide) (hts (Cond.fieldLink RX0 16 "BrownClock$Alarm" "rings" "I") (List.mem_of_getElem? (i := 3) rfl)) (fun _ h9 => h9) rfl dX0_copyFrom_18 ?_
  refine va_put (D := D) (ci := 0) (v := .int k2) (ty := .int) (C := RX0) (T := TX0) (N := 3) hx hb hts i_X0 tyX0 tyX0_ok nmX0 hown hK hP hD hS 0 rfl rfl 2 (by decide) (hts (Cond.fieldLink RX0 16 "BrownClock$Alarm" "rings" "I") (List.mem_of_getElem? (i := 3) rfl)) (fun _ h9 => h9) rfl (by decide +kernel) rfl rfl (Nat.le_of_ble_eq_true rfl) dX0_copyFrom_21 (fun H locs hP hD hS => ?_)
  have hP : va_P D vwCl (fl [[ob h 0 [.int m2, .int (bz w2), .int k2]], [ob q 0 [.int m2, .int (bz w2), .int k2]]]) H := hP
  have hD : va_D A (fl [[ob h 0 [.int m2, .int (bz w2), .int k2]], [ob q 0 [.int m2, .int (bz w2), .int k2]]]) := hD
  have hP : va_P D vwCl (fl [[ob h 0 [.int m2, .int (bz w2), .int k2]], [ob q 0 [.int m2, .int (bz w2), .int k2]]]) H := hP
  have hD : va_D A (fl [[ob h 0 [.int m2, .int (bz w2), .int k2]], [ob q 0 [.int m2, .int (bz w2), .int k2]]]) := hD
  exact end_v (bs' := (fun (_ : Unit) => [[ob h 0 [.int m2, .int (bz w2), .int k2]], [ob q 0 [.int m2, .int (bz w2), .int k2]]])) () hx hb hr hlocks hP hD hS trivial (Nat.le_of_ble_eq_true rfl) (Nat.le_of_ble_eq_true rfl) dX0_copyFrom_24
set_option maxHeartbeats 4000000 in
set_option maxRecDepth 100000 in
theorem c_X0_come (l : Launch) (D : va_G) (ty : Nat → ClassId) (h : Nat) (d m1 w1 k1 : Int32) : CTv l yX0_come wsX0_come ({ frames := 0, cells := 0, slots := 0, locals := 0 }) D ty [.ref h, .int d] [[ob h 0 [.int m1, .int w1, .int k1]]] (fun (_ : Unit) => True) (fun (_ : Unit) => [[ob h 0 [.int m1, .int (if d = 0 then w1 else 1), .int (if d = 0 then k1 + 1 else k1)]]]) := by
  refine CTv_of cX0_come 2 none (by decide) rfl (Nat.le_of_ble_eq_true rfl) ?_
  intro p e s m args below meth c A hx hb hr hml hown hlocks hin hts hA hX hK hP hD ls hl
  have hown : s.vm.findClass RX0 = some m.cls := hown
  have hS : va_S A s.heap s.heap [] := va_S.rf
  have i_X0 : ∀ z ∈ wsX00, z ∈ wsX0_come := fun z h => List.mem_cons_of_mem _ (List.mem_append_right _ h)
  have hl : lv_has ls 2 [(0, .ref h), (1, .int d)] := hl
  refine lv_iload_n hx hb dX0_come_0 rfl (lv_at hl 1 rfl) ?_
  refine lv_if_ne (tgt := 17) hx hb dX0_come_1 (by decide) (fun c_1 => ?_) (fun c_1 => ?_)
  · skip
    refine lv_aload_n hx hb dX0_come_17 rfl (lv_at hl 0 rfl) ?_
    refine lv_iconst (v := 1) hx hb dX0_come_18 (by decide) ?_
    refine va_put (D := D) (ci := 0) (v := .int 1) (ty := .boolean) (C := RX0) (T := TX0) (N := 3) hx hb hts i_X0 tyX0 tyX0_ok nmX0 hown hK hP hD hS 0 rfl rfl 1 (by decide) (hts (Cond.fieldLink RX0 23 "BrownClock$Alarm" "waits" "Z") (List.mem_of_getElem? (i := 2) rfl)) (fun _ h9 => h9) rfl (by decide +kernel) rfl rfl (Nat.le_of_ble_eq_true rfl) dX0_come_19 (fun H locs hP hD hS => ?_)
    have hP : va_P D vwCl (fl [[ob h 0 [.int m1, .int 1, .int k1]]]) H := hP
    have hD : va_D A (fl [[ob h 0 [.int m1, .int 1, .int k1]]]) := hD
    have hP : va_P D vwCl (fl [[ob h 0 [.int m1, .int (if d = 0 then w1 else 1), .int (if d = 0 then k1 + 1 else k1)]]]) H := by simp only [c_1, if_true, if_false]; exact hP
    have hD : va_D A (fl [[ob h 0 [.int m1, .int (if d = 0 then w1 else 1), .int (if d = 0 then k1 + 1 else k1)]]]) := (D_same2 hD [h] rfl rfl)
    exact end_v (bs' := (fun (_ : Unit) => [[ob h 0 [.int m1, .int (if d = 0 then w1 else 1), .int (if d = 0 then k1 + 1 else k1)]]])) () hx hb hr hlocks hP hD hS trivial (Nat.le_of_ble_eq_true rfl) (Nat.le_of_ble_eq_true rfl) dX0_come_22
  · skip
    refine lv_aload_n hx hb dX0_come_4 rfl (lv_at hl 0 rfl) ?_
    refine lv_dup hx hb dX0_come_5 rfl ?_
    refine va_get (D := D) (ci := 0) (v := .int k1) (C := RX0) (T := TX0) (N := 3) hx hb hts i_X0 hown hK hP 0 rfl rfl 2 (by decide) (hts (Cond.fieldLink RX0 16 "BrownClock$Alarm" "rings" "I") (List.mem_of_getElem? (i := 1) rfl)) (fun _ h9 => h9) rfl dX0_come_6 ?_
    refine lv_iconst (v := 1) hx hb dX0_come_9 (by decide) ?_
    refine k_iadd (v := (k1 + 1)) hx hb dX0_come_10 rfl ?_
    refine va_put (D := D) (ci := 0) (v := .int (k1 + 1)) (ty := .int) (C := RX0) (T := TX0) (N := 3) hx hb hts i_X0 tyX0 tyX0_ok nmX0 hown hK hP hD hS 0 rfl rfl 2 (by decide) (hts (Cond.fieldLink RX0 16 "BrownClock$Alarm" "rings" "I") (List.mem_of_getElem? (i := 1) rfl)) (fun _ h9 => h9) rfl (by decide +kernel) rfl rfl (Nat.le_of_ble_eq_true rfl) dX0_come_11 (fun H locs hP hD hS => ?_)
    have hP : va_P D vwCl (fl [[ob h 0 [.int m1, .int w1, .int (k1 + 1)]]]) H := hP
    have hD : va_D A (fl [[ob h 0 [.int m1, .int w1, .int (k1 + 1)]]]) := hD
    refine lv_goto (tgt := 22) hx hb dX0_come_14 (by decide) ?_
    have hP : va_P D vwCl (fl [[ob h 0 [.int m1, .int (if d = 0 then w1 else 1), .int (if d = 0 then k1 + 1 else k1)]]]) H := by simp only [c_1, if_true, if_false]; exact hP
    have hD : va_D A (fl [[ob h 0 [.int m1, .int (if d = 0 then w1 else 1), .int (if d = 0 then k1 + 1 else k1)]]]) := (D_same2 hD [h] rfl rfl)
    exact end_v (bs' := (fun (_ : Unit) => [[ob h 0 [.int m1, .int (if d = 0 then w1 else 1), .int (if d = 0 then k1 + 1 else k1)]]])) () hx hb hr hlocks hP hD hS trivial (Nat.le_of_ble_eq_true rfl) (Nat.le_of_ble_eq_true rfl) dX0_come_22
set_option maxHeartbeats 4000000 in
set_option maxRecDepth 100000 in
theorem c_X0_ringIfWaiting (l : Launch) (D : va_G) (ty : Nat → ClassId) (h : Nat) (m1 w1 k1 : Int32) : CTv l yX0_ringIfWaiting wsX0_ringIfWaiting ({ frames := 0, cells := 0, slots := 0, locals := 0 }) D ty [.ref h] [[ob h 0 [.int m1, .int (bz w1), .int k1]]] (fun (_ : Unit) => True) (fun (_ : Unit) => [[ob h 0 [.int m1, .int (bz 0), .int (if w1 = 1 then k1 + 1 else k1)]]]) := by
  refine CTv_of cX0_ringIfWaiting 1 none (by decide) rfl (Nat.le_of_ble_eq_true rfl) ?_
  intro p e s m args below meth c A hx hb hr hml hown hlocks hin hts hA hX hK hP hD ls hl
  have hown : s.vm.findClass RX0 = some m.cls := hown
  have hS : va_S A s.heap s.heap [] := va_S.rf
  have i_X0 : ∀ z ∈ wsX00, z ∈ wsX0_ringIfWaiting := fun z h => List.mem_cons_of_mem _ (List.mem_append_right _ h)
  have hl : lv_has ls 1 [(0, .ref h)] := hl
  refine lv_aload_n hx hb dX0_ringIfWaiting_0 rfl (lv_at hl 0 rfl) ?_
  refine va_get (D := D) (ci := 0) (v := .int (bz w1)) (C := RX0) (T := TX0) (N := 3) hx hb hts i_X0 hown hK hP 0 rfl rfl 1 (by decide) (hts (Cond.fieldLink RX0 23 "BrownClock$Alarm" "waits" "Z") (List.mem_of_getElem? (i := 1) rfl)) (fun _ h9 => h9) rfl dX0_ringIfWaiting_1 ?_
  refine lv_if_eq (tgt := 22) hx hb dX0_ringIfWaiting_4 (by decide) (fun c_1 => ?_) (fun c_1 => ?_)
  · skip
    have hw : ¬ w1 = 1 := fun q => by rw [q] at c_1; exact absurd c_1 (by decide)
    have hP : va_P D vwCl (fl [[ob h 0 [.int m1, .int (bz 0), .int (if w1 = 1 then k1 + 1 else k1)]]]) s.heap := by rw [if_neg hw, show bz 0 = bz w1 from c_1.symm]; exact hP
    have hD : va_D A (fl [[ob h 0 [.int m1, .int (bz 0), .int (if w1 = 1 then k1 + 1 else k1)]]]) := (D_same2 hD [h] rfl rfl)
    exact end_v (bs' := (fun (_ : Unit) => [[ob h 0 [.int m1, .int (bz 0), .int (if w1 = 1 then k1 + 1 else k1)]]])) () hx hb hr hlocks hP hD hS trivial (Nat.le_of_ble_eq_true rfl) (Nat.le_of_ble_eq_true rfl) dX0_ringIfWaiting_22
  · skip
    refine lv_aload_n hx hb dX0_ringIfWaiting_7 rfl (lv_at hl 0 rfl) ?_
    refine lv_dup hx hb dX0_ringIfWaiting_8 rfl ?_
    refine va_get (D := D) (ci := 0) (v := .int k1) (C := RX0) (T := TX0) (N := 3) hx hb hts i_X0 hown hK hP 0 rfl rfl 2 (by decide) (hts (Cond.fieldLink RX0 16 "BrownClock$Alarm" "rings" "I") (List.mem_of_getElem? (i := 2) rfl)) (fun _ h9 => h9) rfl dX0_ringIfWaiting_9 ?_
    refine lv_iconst (v := 1) hx hb dX0_ringIfWaiting_12 (by decide) ?_
    refine k_iadd (v := (k1 + 1)) hx hb dX0_ringIfWaiting_13 rfl ?_
    refine va_put (D := D) (ci := 0) (v := .int (k1 + 1)) (ty := .int) (C := RX0) (T := TX0) (N := 3) hx hb hts i_X0 tyX0 tyX0_ok nmX0 hown hK hP hD hS 0 rfl rfl 2 (by decide) (hts (Cond.fieldLink RX0 16 "BrownClock$Alarm" "rings" "I") (List.mem_of_getElem? (i := 2) rfl)) (fun _ h9 => h9) rfl (by decide +kernel) rfl rfl (Nat.le_of_ble_eq_true rfl) dX0_ringIfWaiting_14 (fun H locs hP hD hS => ?_)
    have hP : va_P D vwCl (fl [[ob h 0 [.int m1, .int (bz w1), .int (k1 + 1)]]]) H := hP
    have hD : va_D A (fl [[ob h 0 [.int m1, .int (bz w1), .int (k1 + 1)]]]) := hD
    refine lv_aload_n hx hb dX0_ringIfWaiting_17 rfl (lv_at hl 0 rfl) ?_
    refine lv_iconst (v := 0) hx hb dX0_ringIfWaiting_18 (by decide) ?_
    refine va_put (D := D) (ci := 0) (v := .int 0) (ty := .boolean) (C := RX0) (T := TX0) (N := 3) hx hb hts i_X0 tyX0 tyX0_ok nmX0 hown hK hP hD hS 0 rfl rfl 1 (by decide) (hts (Cond.fieldLink RX0 23 "BrownClock$Alarm" "waits" "Z") (List.mem_of_getElem? (i := 1) rfl)) (fun _ h9 => h9) rfl (by decide +kernel) rfl rfl (Nat.le_of_ble_eq_true rfl) dX0_ringIfWaiting_19 (fun H locs hP hD hS => ?_)
    have hP : va_P D vwCl (fl [[ob h 0 [.int m1, .int 0, .int (k1 + 1)]]]) H := hP
    have hD : va_D A (fl [[ob h 0 [.int m1, .int 0, .int (k1 + 1)]]]) := hD
    have hw : w1 = 1 := Classical.byContradiction fun q => c_1 (if_neg q)
    have hP : va_P D vwCl (fl [[ob h 0 [.int m1, .int (bz 0), .int (if w1 = 1 then k1 + 1 else k1)]]]) H := by rw [if_pos hw]; exact hP
    have hD : va_D A (fl [[ob h 0 [.int m1, .int (bz 0), .int (if w1 = 1 then k1 + 1 else k1)]]]) := (D_same2 hD [h] rfl rfl)
    exact end_v (bs' := (fun (_ : Unit) => [[ob h 0 [.int m1, .int (bz 0), .int (if w1 = 1 then k1 + 1 else k1)]]])) () hx hb hr hlocks hP hD hS trivial (Nat.le_of_ble_eq_true rfl) (Nat.le_of_ble_eq_true rfl) dX0_ringIfWaiting_22
set_option maxHeartbeats 4000000 in
set_option maxRecDepth 100000 in
theorem c_X0_tell (l : Launch) (D : va_G) (ty : Nat → ClassId) (h : Nat) (z m1 w1 k1 : Int32) : CTi l yX0_tell wsX0_tell ({ frames := 0, cells := 0, slots := 0, locals := 0 }) D ty [.ref h, .int z] [[ob h 0 [.int m1, .int (bz w1), .int k1]]] (fun (RET : Int32) (_ : Unit) => RET = (if z = 0 then m1 else if z = 1 then bz w1 else k1)) (fun (_ : Unit) => [[ob h 0 [.int m1, .int (bz w1), .int k1]]]) := by
  refine CTi_of cX0_tell 2 (some .int) (by decide) rfl (Nat.le_of_ble_eq_true rfl) ?_
  intro p e s m args below meth c A hx hb hr hml hown hlocks hin hts hA hX hK hP hD ls hl
  have hown : s.vm.findClass RX0 = some m.cls := hown
  have hS : va_S A s.heap s.heap [] := va_S.rf
  have i_X0 : ∀ z ∈ wsX00, z ∈ wsX0_tell := fun z h => List.mem_cons_of_mem _ (List.mem_append_right _ h)
  have hl : lv_has ls 2 [(0, .ref h), (1, .int z)] := hl
  refine lv_iload_n hx hb dX0_tell_0 rfl (lv_at hl 1 rfl) ?_
  rcases Classical.em (z = 0) with c_1 | c_1
  · refine lv_lookup (tgt := 28) (off := 27) hx hb dX0_tell_1 (by decide) (by first | (rw [c_1]; done) | (rw [c_1]; decide)) (by decide) ?_
    refine lv_aload_n hx hb dX0_tell_28 rfl (lv_at hl 0 rfl) ?_
    refine va_get (D := D) (ci := 0) (v := .int m1) (C := RX0) (T := TX0) (N := 3) hx hb hts i_X0 hown hK hP 0 rfl rfl 0 (by decide) (hts (Cond.fieldLink RX0 20 "BrownClock$Alarm" "minute" "I") (List.mem_of_getElem? (i := 1) rfl)) (fun _ h9 => h9) rfl dX0_tell_29 ?_
    have hP : va_P D vwCl (fl [[ob h 0 [.int m1, .int (bz w1), .int k1]]]) s.heap := hP
    have hD : va_D A (fl [[ob h 0 [.int m1, .int (bz w1), .int k1]]]) := hD
    exact end_i (bs' := (fun (_ : Unit) => [[ob h 0 [.int m1, .int (bz w1), .int k1]]])) () hx hb hr hlocks hP hD hS (by simp [c_1]) (Nat.le_of_ble_eq_true rfl) (Nat.le_of_ble_eq_true rfl) dX0_tell_32
  rcases Classical.em (z = 1) with c_2 | c_2
  · refine lv_lookup (tgt := 33) (off := 32) hx hb dX0_tell_1 (by decide) (by first | (rw [c_2]; done) | (rw [c_2]; decide)) (by decide) ?_
    refine lv_aload_n hx hb dX0_tell_33 rfl (lv_at hl 0 rfl) ?_
    refine va_get (D := D) (ci := 0) (v := .int (bz w1)) (C := RX0) (T := TX0) (N := 3) hx hb hts i_X0 hown hK hP 0 rfl rfl 1 (by decide) (hts (Cond.fieldLink RX0 23 "BrownClock$Alarm" "waits" "Z") (List.mem_of_getElem? (i := 2) rfl)) (fun _ h9 => h9) rfl dX0_tell_34 ?_
    refine lv_if_eq (tgt := 44) hx hb dX0_tell_37 (by decide) (fun c_3 => ?_) (fun c_3 => ?_)
    · skip
      refine lv_iconst (v := 0) hx hb dX0_tell_44 (by decide) ?_
      have hP : va_P D vwCl (fl [[ob h 0 [.int m1, .int (bz w1), .int k1]]]) s.heap := hP
      have hD : va_D A (fl [[ob h 0 [.int m1, .int (bz w1), .int k1]]]) := hD
      exact end_i (bs' := (fun (_ : Unit) => [[ob h 0 [.int m1, .int (bz w1), .int k1]]])) () hx hb hr hlocks hP hD hS (by rcases bz_or w1 with hw | hw <;> simp_all) (Nat.le_of_ble_eq_true rfl) (Nat.le_of_ble_eq_true rfl) dX0_tell_45
    · skip
      refine lv_iconst (v := 1) hx hb dX0_tell_40 (by decide) ?_
      refine lv_goto (tgt := 45) hx hb dX0_tell_41 (by decide) ?_
      have hP : va_P D vwCl (fl [[ob h 0 [.int m1, .int (bz w1), .int k1]]]) s.heap := hP
      have hD : va_D A (fl [[ob h 0 [.int m1, .int (bz w1), .int k1]]]) := hD
      exact end_i (bs' := (fun (_ : Unit) => [[ob h 0 [.int m1, .int (bz w1), .int k1]]])) () hx hb hr hlocks hP hD hS (by rcases bz_or w1 with hw | hw <;> simp_all) (Nat.le_of_ble_eq_true rfl) (Nat.le_of_ble_eq_true rfl) dX0_tell_45
  refine lv_lookup (tgt := 46) (off := 45) hx hb dX0_tell_1 (by decide) ((lv_osw c_1 (by decide)).trans ((lv_osw c_2 (by decide)).trans (rfl))) (by decide) ?_
  refine lv_aload_n hx hb dX0_tell_46 rfl (lv_at hl 0 rfl) ?_
  refine va_get (D := D) (ci := 0) (v := .int k1) (C := RX0) (T := TX0) (N := 3) hx hb hts i_X0 hown hK hP 0 rfl rfl 2 (by decide) (hts (Cond.fieldLink RX0 16 "BrownClock$Alarm" "rings" "I") (List.mem_of_getElem? (i := 3) rfl)) (fun _ h9 => h9) rfl dX0_tell_47 ?_
  have hP : va_P D vwCl (fl [[ob h 0 [.int m1, .int (bz w1), .int k1]]]) s.heap := hP
  have hD : va_D A (fl [[ob h 0 [.int m1, .int (bz w1), .int k1]]]) := hD
  exact end_i (bs' := (fun (_ : Unit) => [[ob h 0 [.int m1, .int (bz w1), .int k1]]])) () hx hb hr hlocks hP hD hS (by simp [c_1, c_2]) (Nat.le_of_ble_eq_true rfl) (Nat.le_of_ble_eq_true rfl) dX0_tell_50
set_option maxHeartbeats 4000000 in
set_option maxRecDepth 100000 in
theorem c_X0_isDue (l : Launch) (D : va_G) (ty : Nat → ClassId) (h : Nat) (u v d w1 k1 : Int32) (hu : u.toInt ≤ 100000000) (hv : v.toInt ≤ 100000000) : CTi l yX0_isDue wsX0_isDue ({ frames := 0, cells := 0, slots := 0, locals := 0 }) D ty [.ref h, .int u, .int v] [[ob h 0 [.int d, .int w1, .int k1]]] (fun (RET : Int32) (_ : Unit) => RET = (due u v d)) (fun (_ : Unit) => [[ob h 0 [.int d, .int w1, .int k1]]]) := by
  refine CTi_of cX0_isDue 4 (some .boolean) (by decide) rfl (Nat.le_of_ble_eq_true rfl) ?_
  intro p e s m args below meth c A hx hb hr hml hown hlocks hin hts hA hX hK hP hD ls hl
  have hown : s.vm.findClass RX0 = some m.cls := hown
  have hS : va_S A s.heap s.heap [] := va_S.rf
  have i_X0 : ∀ z ∈ wsX00, z ∈ wsX0_isDue := fun z h => List.mem_cons_of_mem _ (List.mem_append_right _ h)
  have hl : lv_has ls 4 [(0, .ref h), (1, .int u), (2, .int v)] := hl
  generalize hQg : MQ below (va_Qi (fun (RET : Int32) (_ : Unit) => RET = (due u v d)) (PostW D (fun (_ : Unit) => [[ob h 0 [.int d, .int w1, .int k1]]]) A) A) args s 0 0 A = Qg
  refine lv_iload_n hx hb dX0_isDue_0 rfl (lv_at hl 1 rfl) ?_
  refine lv_iconst (v := 1) hx hb dX0_isDue_1 (by decide) ?_
  refine k_iadd (v := (u + 1)) hx hb dX0_isDue_2 rfl ?_
  refine lv_istore_n (lv' := [(3, .int (u + 1)), (0, .ref h), (1, .int u), (2, .int v)]) hx hb dX0_isDue_3 rfl hl (by decide) rfl (fun ls hl => ?_)
  have hloop : ∀ (n : Nat) (k : Int32), ((v.toInt + 1 - k.toInt).toNat < n) → (k.toInt ≤ 100000001) → (due u v d = dueN (v.toInt + 1 - k.toInt).toNat k d) → ∀ (H : Heap) (locs : List Loc), va_P D vwCl (fl [[ob h 0 [.int d, .int w1, .int k1]]]) H → va_D A (fl [[ob h 0 [.int d, .int w1, .int k1]]]) → va_S A s.heap H locs → ∀ ls : Array Slot, lv_has ls 4 [(3, .int k), (0, .ref h), (1, .int u), (2, .int v)] → W p l e ({ frames := 0, cells := 0, slots := 0, locals := 0 } : Room) s m args below meth c H locs 0 0 Qg (F0 m 4 ls []) := by
    intro n
    induction n with
    | zero =>
      intro k hk hle hd
      exact absurd hk (Nat.not_lt_zero _)
    | succ n ih =>
      intro k hk hle hd H locs hP hD hS ls hl
      refine lv_iload_n hx hb dX0_isDue_4 rfl (lv_at hl 0 rfl) ?_
      refine lv_iload_n hx hb dX0_isDue_5 rfl (lv_at hl 3 rfl) ?_
      refine lv_icmp_gt (tgt := 29) hx hb dX0_isDue_6 (by decide) (fun c_1 => ?_) (fun c_1 => ?_)
      · skip
        refine lv_iconst (v := 0) hx hb dX0_isDue_29 (by decide) ?_
        subst hQg
        have hP : va_P D vwCl (fl [[ob h 0 [.int d, .int w1, .int k1]]]) H := hP
        have hD : va_D A (fl [[ob h 0 [.int d, .int w1, .int k1]]]) := hD
        exact end_z (bs' := (fun (_ : Unit) => [[ob h 0 [.int d, .int w1, .int k1]]])) () hx hb hr hlocks rfl hP hD hS (by simp only [gt_iff_lt, fa_lt] at c_1; rw [hd, show (v.toInt + 1 - k.toInt).toNat = 0 by omega, dueN]) (Nat.le_of_ble_eq_true rfl) (Nat.le_of_ble_eq_true rfl) dX0_isDue_30
      · skip
        have hkv : k.toInt ≤ v.toInt := by simp only [gt_iff_lt, fa_lt] at c_1; omega
        have hstep : (v.toInt + 1 - k.toInt).toNat = (v.toInt - k.toInt).toNat + 1 := by omega
        refine lv_iload_n hx hb dX0_isDue_9 rfl (lv_at hl 0 rfl) ?_
        refine lv_sipush (v := 1440) hx hb dX0_isDue_10 (by decide) ?_
        refine k_irem (v := (rem32 k 1440)) hx hb dX0_isDue_13 (by decide) rfl ?_
        refine lv_aload_n hx hb dX0_isDue_14 rfl (lv_at hl 1 rfl) ?_
        refine va_get (D := D) (ci := 0) (v := .int d) (C := RX0) (T := TX0) (N := 3) hx hb hts i_X0 hown hK hP 0 rfl rfl 0 (by decide) (hts (Cond.fieldLink RX0 20 "BrownClock$Alarm" "minute" "I") (List.mem_of_getElem? (i := 1) rfl)) (fun _ h9 => h9) rfl dX0_isDue_15 ?_
        refine lv_icmp_ne (tgt := 23) hx hb dX0_isDue_18 (by decide) (fun c_2 => ?_) (fun c_2 => ?_)
        · skip
          refine lv_iinc (v := (k + 1)) (lv' := [(3, .int (k + 1)), (0, .ref h), (1, .int u), (2, .int v)]) hx hb dX0_isDue_23 hl (k := 0) rfl rfl (by decide) rfl (fun ls hl => ?_)
          refine lv_goto (tgt := 4) hx hb dX0_isDue_26 (by decide) ?_
          exact ih (k + 1) (by rw [i_inc (by omega)]; omega) (by rw [i_inc (by omega)]; omega) (by rw [hd, hstep, dueN, if_neg c_2, i_inc (by omega)]; congr 1; omega) _ _ (show va_P D vwCl (fl [[ob h 0 [.int d, .int w1, .int k1]]]) _ from hP) hD hS _ (lv_sub hl [0, 1, 2, 3] rfl)
        · skip
          refine lv_iconst (v := 1) hx hb dX0_isDue_21 (by decide) ?_
          subst hQg
          have hP : va_P D vwCl (fl [[ob h 0 [.int d, .int w1, .int k1]]]) H := hP
          have hD : va_D A (fl [[ob h 0 [.int d, .int w1, .int k1]]]) := hD
          exact end_z (bs' := (fun (_ : Unit) => [[ob h 0 [.int d, .int w1, .int k1]]])) () hx hb hr hlocks rfl hP hD hS (by rw [hd, hstep, dueN, if_pos c_2]) (Nat.le_of_ble_eq_true rfl) (Nat.le_of_ble_eq_true rfl) dX0_isDue_22
  exact hloop ((v.toInt + 1 - (u + 1).toInt).toNat + 1) (u + 1) (Nat.lt_succ_self _) (by rw [i_inc (by omega)]; omega) (by rw [i_inc (by omega)]; unfold due; congr 1; omega) _ _ (show va_P D vwCl (fl [[ob h 0 [.int d, .int w1, .int k1]]]) _ from hP) hD hS _ (lv_sub hl [0, 1, 2, 3] rfl)
