set_option maxHeartbeats 4000000 in
set_option maxRecDepth 100000 in
theorem c_X1_init (l : Launch) (D : va_G) (ty : Nat → ClassId) (h : Nat) (s1 r1 v1 e1 n1 : Int32) (x1 y1 : Int64) : CTv l yX1_init wsX1_init ({ frames := 1, cells := 0, slots := 0, locals := 20 }) D ty [.ref h] [[ob h 1 [.int s1, .int r1, .int v1, .int e1, .int n1, .long x1, .long y1]]] (fun (_ : Unit) => True) (fun (_ : Unit) => [[ob h 1 [.int s1, .int r1, .int v1, .int e1, .int n1, .long x1, .long y1]]]) := by
  refine CTv_of cX1_init 1 none (by decide) rfl (Nat.le_of_ble_eq_true rfl) ?_
  intro p e s m args below meth c A hx hb hr hml hown hlocks hin hts hA hX hK hP hD ls hl
  have hown : s.vm.findClass RX1 = some m.cls := hown
  have hS : va_S A s.heap s.heap [] := va_S.rf
  have hl : lv_has ls 1 [(0, .ref h)] := hl
  refine lv_aload_n hx hb dX1_init_0 rfl (lv_at hl 0 rfl) ?_
  refine W.objInit hx hb hown (hts (Cond.methodLink RX1 3 objectInit) (List.mem_of_getElem? (i := 1) rfl)) (hts (Cond.instanceMethod objectInit) (List.mem_of_getElem? (i := 2) rfl)) (hts _ (List.mem_of_getElem? (i := 3) rfl)) rfl (by rw [hml]; exact hl.1) rfl dX1_init_1 (Nat.le_of_ble_eq_true rfl) (Nat.le_of_ble_eq_true rfl) ?_
  refine W.eq (g2 := F0 m 4 ls []) rfl ?_
  have hP : va_P D vwCl (fl [[ob h 1 [.int s1, .int r1, .int v1, .int e1, .int n1, .long x1, .long y1]]]) _ := hP
  have hD : va_D A (fl [[ob h 1 [.int s1, .int r1, .int v1, .int e1, .int n1, .long x1, .long y1]]]) := D_same rfl hD
  exact end_v (bs' := (fun (_ : Unit) => [[ob h 1 [.int s1, .int r1, .int v1, .int e1, .int n1, .long x1, .long y1]]])) () hx hb hr hlocks hP hD hS trivial (Nat.le_of_ble_eq_true rfl) (Nat.le_of_ble_eq_true rfl) dX1_init_4
set_option maxHeartbeats 4000000 in
set_option maxRecDepth 100000 in
theorem c_X1_lose (l : Launch) (D : va_G) (ty : Nat → ClassId) (h : Nat) (s1 r1 v1 e1 n1 : Int32) (x1 y1 : Int64) : CTv l yX1_lose wsX1_lose ({ frames := 0, cells := 0, slots := 0, locals := 0 }) D ty [.ref h] [[ob h 1 [.int s1, .int r1, .int v1, .int e1, .int n1, .long x1, .long y1]]] (fun (_ : Unit) => True) (fun (_ : Unit) => [[ob h 1 [.int 0, .int 0, .int 0, .int e1, .int n1, .long x1, .long y1]]]) := by
  refine CTv_of cX1_lose 1 none (by decide) rfl (Nat.le_of_ble_eq_true rfl) ?_
  intro p e s m args below meth c A hx hb hr hml hown hlocks hin hts hA hX hK hP hD ls hl
  have hown : s.vm.findClass RX1 = some m.cls := hown
  have hS : va_S A s.heap s.heap [] := va_S.rf
  have i_X1 : ∀ z ∈ wsX10, z ∈ wsX1_lose := fun z h => List.mem_cons_of_mem _ (List.mem_append_right _ h)
  have hl : lv_has ls 1 [(0, .ref h)] := hl
  refine lv_aload_n hx hb dX1_lose_0 rfl (lv_at hl 0 rfl) ?_
  refine lv_iconst (v := 0) hx hb dX1_lose_1 (by decide) ?_
  refine va_put (D := D) (ci := 1) (v := .int 0) (ty := .int) (C := RX1) (T := TX1) (N := 7) hx hb hts i_X1 tyX1 tyX1_ok nmX1 hown hK hP hD hS 0 rfl rfl 0 (by decide) (hts (Cond.fieldLink RX1 28 "BrownClock$Crystal" "seconds" "I") (List.mem_of_getElem? (i := 1) rfl)) (fun _ h9 => h9) rfl (by decide +kernel) rfl rfl (Nat.le_of_ble_eq_true rfl) dX1_lose_2 (fun H locs hP hD hS => ?_)
  have hP : va_P D vwCl (fl [[ob h 1 [.int 0, .int r1, .int v1, .int e1, .int n1, .long x1, .long y1]]]) H := hP
  have hD : va_D A (fl [[ob h 1 [.int 0, .int r1, .int v1, .int e1, .int n1, .long x1, .long y1]]]) := hD
  refine lv_aload_n hx hb dX1_lose_5 rfl (lv_at hl 0 rfl) ?_
  refine lv_iconst (v := 0) hx hb dX1_lose_6 (by decide) ?_
  refine va_put (D := D) (ci := 1) (v := .int 0) (ty := .int) (C := RX1) (T := TX1) (N := 7) hx hb hts i_X1 tyX1 tyX1_ok nmX1 hown hK hP hD hS 0 rfl rfl 1 (by decide) (hts (Cond.fieldLink RX1 31 "BrownClock$Crystal" "rest" "I") (List.mem_of_getElem? (i := 2) rfl)) (fun _ h9 => h9) rfl (by decide +kernel) rfl rfl (Nat.le_of_ble_eq_true rfl) dX1_lose_7 (fun H locs hP hD hS => ?_)
  have hP : va_P D vwCl (fl [[ob h 1 [.int 0, .int 0, .int v1, .int e1, .int n1, .long x1, .long y1]]]) H := hP
  have hD : va_D A (fl [[ob h 1 [.int 0, .int 0, .int v1, .int e1, .int n1, .long x1, .long y1]]]) := hD
  refine lv_aload_n hx hb dX1_lose_10 rfl (lv_at hl 0 rfl) ?_
  refine lv_iconst (v := 0) hx hb dX1_lose_11 (by decide) ?_
  refine va_put (D := D) (ci := 1) (v := .int 0) (ty := .boolean) (C := RX1) (T := TX1) (N := 7) hx hb hts i_X1 tyX1 tyX1_ok nmX1 hown hK hP hD hS 0 rfl rfl 2 (by decide) (hts (Cond.fieldLink RX1 34 "BrownClock$Crystal" "valid" "Z") (List.mem_of_getElem? (i := 3) rfl)) (fun _ h9 => h9) rfl (by decide +kernel) rfl rfl (Nat.le_of_ble_eq_true rfl) dX1_lose_12 (fun H locs hP hD hS => ?_)
  have hP : va_P D vwCl (fl [[ob h 1 [.int 0, .int 0, .int 0, .int e1, .int n1, .long x1, .long y1]]]) H := hP
  have hD : va_D A (fl [[ob h 1 [.int 0, .int 0, .int 0, .int e1, .int n1, .long x1, .long y1]]]) := hD
  have hP : va_P D vwCl (fl [[ob h 1 [.int 0, .int 0, .int 0, .int e1, .int n1, .long x1, .long y1]]]) _ := hP
  have hD : va_D A (fl [[ob h 1 [.int 0, .int 0, .int 0, .int e1, .int n1, .long x1, .long y1]]]) := D_same rfl hD
  exact end_v (bs' := (fun (_ : Unit) => [[ob h 1 [.int 0, .int 0, .int 0, .int e1, .int n1, .long x1, .long y1]]])) () hx hb hr hlocks hP hD hS trivial (Nat.le_of_ble_eq_true rfl) (Nat.le_of_ble_eq_true rfl) dX1_lose_15
set_option maxHeartbeats 4000000 in
set_option maxRecDepth 100000 in
theorem c_X1_reset (l : Launch) (D : va_G) (ty : Nat → ClassId) (h : Nat) (s1 r1 v1 e1 n1 : Int32) (x1 y1 : Int64) : CTv l yX1_reset wsX1_reset ({ frames := 1, cells := 0, slots := 0, locals := 20 }) D ty [.ref h] [[ob h 1 [.int s1, .int r1, .int v1, .int e1, .int n1, .long x1, .long y1]]] (fun (_ : Unit) => True) (fun (_ : Unit) => [[ob h 1 [.int 0, .int 0, .int 0, .int 100, .int 0, .long 0, .long 0]]]) := by
  refine CTv_of cX1_reset 1 none (by decide) rfl (Nat.le_of_ble_eq_true rfl) ?_
  intro p e s m args below meth c A hx hb hr hml hown hlocks hin hts hA hX hK hP hD ls hl
  have hown : s.vm.findClass RX1 = some m.cls := hown
  have hS : va_S A s.heap s.heap [] := va_S.rf
  have i_X1 : ∀ z ∈ wsX10, z ∈ wsX1_reset := fun z h => List.mem_cons_of_mem _ (List.mem_append_right _ h)
  have hl : lv_has ls 1 [(0, .ref h)] := hl
  refine lv_aload_n hx hb dX1_reset_0 rfl (lv_at hl 0 rfl) ?_
  refine cVv (As := []) (rest := []) ⟨hx, hb, hml, hown, hts⟩ (c_X1_lose l D ty h s1 r1 v1 e1 n1 x1 y1) (cwV 0 hts gX1_reset_X1_lose rfl rfl rfl (by decide +kernel) ⟨Nat.le_of_ble_eq_true rfl, Nat.le_of_ble_eq_true rfl⟩) hK hX hP hD hS hA (pk (bs := [[ob h 1 [.int s1, .int r1, .int v1, .int e1, .int n1, .long x1, .long y1]]]) (bsc := [[ob h 1 [.int s1, .int r1, .int v1, .int e1, .int n1, .long x1, .long y1]]]) (bsr := []) [0] [] (by decide) rfl rfl) (ci := 1) rfl 0 rfl rfl hl.1 rfl (by decide) dX1_reset_1 ⟨Nat.le_of_ble_eq_true rfl, Nat.le_of_ble_eq_true rfl⟩ (fun u_1 h_3 H locs hP hD hS => ?_)
  have hP : va_P D vwCl (fl [[ob h 1 [.int 0, .int 0, .int 0, .int e1, .int n1, .long x1, .long y1]]]) H := P_perm (po (bs := [[ob h 1 [.int 0, .int 0, .int 0, .int e1, .int n1, .long x1, .long y1]]]) [0] (by decide) rfl) hP
  have hD : va_D A (fl [[ob h 1 [.int 0, .int 0, .int 0, .int e1, .int n1, .long x1, .long y1]]]) := D_perm (po (bs := [[ob h 1 [.int 0, .int 0, .int 0, .int e1, .int n1, .long x1, .long y1]]]) [0] (by decide) rfl) hD
  refine lv_aload_n hx hb dX1_reset_4 rfl (lv_at hl 0 rfl) ?_
  refine lv_bipush (v := 100) hx hb dX1_reset_5 (by decide) ?_
  refine va_put (D := D) (ci := 1) (v := .int 100) (ty := .int) (C := RX1) (T := TX1) (N := 7) hx hb hts i_X1 tyX1 tyX1_ok nmX1 hown hK hP hD hS 0 rfl rfl 3 (by decide) (hts (Cond.fieldLink RX1 14 "BrownClock$Crystal" "error" "I") (List.mem_of_getElem? (i := 1) rfl)) (fun _ h9 => h9) rfl (by decide +kernel) rfl rfl (Nat.le_of_ble_eq_true rfl) dX1_reset_7 (fun H locs hP hD hS => ?_)
  have hP : va_P D vwCl (fl [[ob h 1 [.int 0, .int 0, .int 0, .int 100, .int n1, .long x1, .long y1]]]) H := hP
  have hD : va_D A (fl [[ob h 1 [.int 0, .int 0, .int 0, .int 100, .int n1, .long x1, .long y1]]]) := hD
  refine lv_aload_n hx hb dX1_reset_10 rfl (lv_at hl 0 rfl) ?_
  refine lv_iconst (v := 0) hx hb dX1_reset_11 (by decide) ?_
  refine va_put (D := D) (ci := 1) (v := .int 0) (ty := .int) (C := RX1) (T := TX1) (N := 7) hx hb hts i_X1 tyX1 tyX1_ok nmX1 hown hK hP hD hS 0 rfl rfl 4 (by decide) (hts (Cond.fieldLink RX1 18 "BrownClock$Crystal" "correction" "I") (List.mem_of_getElem? (i := 2) rfl)) (fun _ h9 => h9) rfl (by decide +kernel) rfl rfl (Nat.le_of_ble_eq_true rfl) dX1_reset_12 (fun H locs hP hD hS => ?_)
  have hP : va_P D vwCl (fl [[ob h 1 [.int 0, .int 0, .int 0, .int 100, .int 0, .long x1, .long y1]]]) H := hP
  have hD : va_D A (fl [[ob h 1 [.int 0, .int 0, .int 0, .int 100, .int 0, .long x1, .long y1]]]) := hD
  refine lv_aload_n hx hb dX1_reset_15 rfl (lv_at hl 0 rfl) ?_
  refine lv_lconst (v := 0) hx hb dX1_reset_16 (by decide) ?_
  refine va_put (D := D) (ci := 1) (v := .long 0) (ty := .long) (C := RX1) (T := TX1) (N := 7) hx hb hts i_X1 tyX1 tyX1_ok nmX1 hown hK hP hD hS 0 rfl rfl 5 (by decide) (hts (Cond.fieldLink RX1 21 "BrownClock$Crystal" "correctionSum" "J") (List.mem_of_getElem? (i := 3) rfl)) (fun _ h9 => h9) rfl (by decide +kernel) rfl rfl (Nat.le_of_ble_eq_true rfl) dX1_reset_17 (fun H locs hP hD hS => ?_)
  have hP : va_P D vwCl (fl [[ob h 1 [.int 0, .int 0, .int 0, .int 100, .int 0, .long 0, .long y1]]]) H := hP
  have hD : va_D A (fl [[ob h 1 [.int 0, .int 0, .int 0, .int 100, .int 0, .long 0, .long y1]]]) := hD
  refine lv_aload_n hx hb dX1_reset_20 rfl (lv_at hl 0 rfl) ?_
  refine lv_lconst (v := 0) hx hb dX1_reset_21 (by decide) ?_
  refine va_put (D := D) (ci := 1) (v := .long 0) (ty := .long) (C := RX1) (T := TX1) (N := 7) hx hb hts i_X1 tyX1 tyX1_ok nmX1 hown hK hP hD hS 0 rfl rfl 6 (by decide) (hts (Cond.fieldLink RX1 25 "BrownClock$Crystal" "driftSum" "J") (List.mem_of_getElem? (i := 4) rfl)) (fun _ h9 => h9) rfl (by decide +kernel) rfl rfl (Nat.le_of_ble_eq_true rfl) dX1_reset_22 (fun H locs hP hD hS => ?_)
  have hP : va_P D vwCl (fl [[ob h 1 [.int 0, .int 0, .int 0, .int 100, .int 0, .long 0, .long 0]]]) H := hP
  have hD : va_D A (fl [[ob h 1 [.int 0, .int 0, .int 0, .int 100, .int 0, .long 0, .long 0]]]) := hD
  have hP : va_P D vwCl (fl [[ob h 1 [.int 0, .int 0, .int 0, .int 100, .int 0, .long 0, .long 0]]]) _ := hP
  have hD : va_D A (fl [[ob h 1 [.int 0, .int 0, .int 0, .int 100, .int 0, .long 0, .long 0]]]) := D_same rfl hD
  exact end_v (bs' := (fun (_ : Unit) => [[ob h 1 [.int 0, .int 0, .int 0, .int 100, .int 0, .long 0, .long 0]]])) () hx hb hr hlocks hP hD hS trivial (Nat.le_of_ble_eq_true rfl) (Nat.le_of_ble_eq_true rfl) dX1_reset_25
set_option maxHeartbeats 4000000 in
set_option maxRecDepth 100000 in
theorem c_X1_setTo (l : Launch) (D : va_G) (ty : Nat → ClassId) (h : Nat) (z s1 r1 v1 e1 n1 : Int32) (x1 y1 : Int64) : CTv l yX1_setTo wsX1_setTo ({ frames := 0, cells := 0, slots := 0, locals := 0 }) D ty [.ref h, .int z] [[ob h 1 [.int s1, .int r1, .int v1, .int e1, .int n1, .long x1, .long y1]]] (fun (_ : Unit) => True) (fun (_ : Unit) => [[ob h 1 [.int z, .int 0, .int 1, .int e1, .int n1, .long x1, .long y1]]]) := by
  refine CTv_of cX1_setTo 2 none (by decide) rfl (Nat.le_of_ble_eq_true rfl) ?_
  intro p e s m args below meth c A hx hb hr hml hown hlocks hin hts hA hX hK hP hD ls hl
  have hown : s.vm.findClass RX1 = some m.cls := hown
  have hS : va_S A s.heap s.heap [] := va_S.rf
  have i_X1 : ∀ z ∈ wsX10, z ∈ wsX1_setTo := fun z h => List.mem_cons_of_mem _ (List.mem_append_right _ h)
  have hl : lv_has ls 2 [(0, .ref h), (1, .int z)] := hl
  refine lv_aload_n hx hb dX1_setTo_0 rfl (lv_at hl 0 rfl) ?_
  refine lv_iload_n hx hb dX1_setTo_1 rfl (lv_at hl 1 rfl) ?_
  refine va_put (D := D) (ci := 1) (v := .int z) (ty := .int) (C := RX1) (T := TX1) (N := 7) hx hb hts i_X1 tyX1 tyX1_ok nmX1 hown hK hP hD hS 0 rfl rfl 0 (by decide) (hts (Cond.fieldLink RX1 28 "BrownClock$Crystal" "seconds" "I") (List.mem_of_getElem? (i := 1) rfl)) (fun _ h9 => h9) rfl (by decide +kernel) rfl rfl (Nat.le_of_ble_eq_true rfl) dX1_setTo_2 (fun H locs hP hD hS => ?_)
  have hP : va_P D vwCl (fl [[ob h 1 [.int z, .int r1, .int v1, .int e1, .int n1, .long x1, .long y1]]]) H := hP
  have hD : va_D A (fl [[ob h 1 [.int z, .int r1, .int v1, .int e1, .int n1, .long x1, .long y1]]]) := hD
  refine lv_aload_n hx hb dX1_setTo_5 rfl (lv_at hl 0 rfl) ?_
  refine lv_iconst (v := 0) hx hb dX1_setTo_6 (by decide) ?_
  refine va_put (D := D) (ci := 1) (v := .int 0) (ty := .int) (C := RX1) (T := TX1) (N := 7) hx hb hts i_X1 tyX1 tyX1_ok nmX1 hown hK hP hD hS 0 rfl rfl 1 (by decide) (hts (Cond.fieldLink RX1 31 "BrownClock$Crystal" "rest" "I") (List.mem_of_getElem? (i := 2) rfl)) (fun _ h9 => h9) rfl (by decide +kernel) rfl rfl (Nat.le_of_ble_eq_true rfl) dX1_setTo_7 (fun H locs hP hD hS => ?_)
  have hP : va_P D vwCl (fl [[ob h 1 [.int z, .int 0, .int v1, .int e1, .int n1, .long x1, .long y1]]]) H := hP
  have hD : va_D A (fl [[ob h 1 [.int z, .int 0, .int v1, .int e1, .int n1, .long x1, .long y1]]]) := hD
  refine lv_aload_n hx hb dX1_setTo_10 rfl (lv_at hl 0 rfl) ?_
  refine lv_iconst (v := 1) hx hb dX1_setTo_11 (by decide) ?_
  refine va_put (D := D) (ci := 1) (v := .int 1) (ty := .boolean) (C := RX1) (T := TX1) (N := 7) hx hb hts i_X1 tyX1 tyX1_ok nmX1 hown hK hP hD hS 0 rfl rfl 2 (by decide) (hts (Cond.fieldLink RX1 34 "BrownClock$Crystal" "valid" "Z") (List.mem_of_getElem? (i := 3) rfl)) (fun _ h9 => h9) rfl (by decide +kernel) rfl rfl (Nat.le_of_ble_eq_true rfl) dX1_setTo_12 (fun H locs hP hD hS => ?_)
  have hP : va_P D vwCl (fl [[ob h 1 [.int z, .int 0, .int 1, .int e1, .int n1, .long x1, .long y1]]]) H := hP
  have hD : va_D A (fl [[ob h 1 [.int z, .int 0, .int 1, .int e1, .int n1, .long x1, .long y1]]]) := hD
  have hP : va_P D vwCl (fl [[ob h 1 [.int z, .int 0, .int 1, .int e1, .int n1, .long x1, .long y1]]]) _ := hP
  have hD : va_D A (fl [[ob h 1 [.int z, .int 0, .int 1, .int e1, .int n1, .long x1, .long y1]]]) := D_same rfl hD
  exact end_v (bs' := (fun (_ : Unit) => [[ob h 1 [.int z, .int 0, .int 1, .int e1, .int n1, .long x1, .long y1]]])) () hx hb hr hlocks hP hD hS trivial (Nat.le_of_ble_eq_true rfl) (Nat.le_of_ble_eq_true rfl) dX1_setTo_15
set_option maxHeartbeats 4000000 in
set_option maxRecDepth 100000 in
theorem c_X1_copyFrom (l : Launch) (D : va_G) (ty : Nat → ClassId) (h q : Nat) (s1 r1 v1 e1 n1 s2 r2 v2 e2 n2 : Int32) (x1 y1 x2 y2 : Int64) : CTv l yX1_copyFrom wsX1_copyFrom ({ frames := 0, cells := 0, slots := 0, locals := 0 }) D ty [.ref h, .ref q] [[ob h 1 [.int s1, .int r1, .int v1, .int e1, .int n1, .long x1, .long y1]], [ob q 1 [.int s2, .int r2, .int (bz v2), .int e2, .int n2, .long x2, .long y2]]] (fun (_ : Unit) => True) (fun (_ : Unit) => [[ob h 1 [.int s2, .int r2, .int (bz v2), .int e2, .int n2, .long x2, .long y2]], [ob q 1 [.int s2, .int r2, .int (bz v2), .int e2, .int n2, .long x2, .long y2]]]) := by
  refine CTv_of cX1_copyFrom 2 none (by decide) rfl (Nat.le_of_ble_eq_true rfl) ?_
  intro p e s m args below meth c A hx hb hr hml hown hlocks hin hts hA hX hK hP hD ls hl
  have hown : s.vm.findClass RX1 = some m.cls := hown
  have hS : va_S A s.heap s.heap [] := va_S.rf
  have i_X1 : ∀ z ∈ wsX10, z ∈ wsX1_copyFrom := fun z h => List.mem_cons_of_mem _ (List.mem_append_right _ h)
  have hl : lv_has ls 2 [(0, .ref h), (1, .ref q)] := hl
  refine lv_aload_n hx hb dX1_copyFrom_0 rfl (lv_at hl 0 rfl) ?_
  refine lv_aload_n hx hb dX1_copyFrom_1 rfl (lv_at hl 1 rfl) ?_
  refine va_get (D := D) (ci := 1) (v := .int s2) (C := RX1) (T := TX1) (N := 7) hx hb hts i_X1 hown hK hP 1 rfl rfl 0 (by decide) (hts (Cond.fieldLink RX1 28 "BrownClock$Crystal" "seconds" "I") (List.mem_of_getElem? (i := 1) rfl)) (fun _ h9 => h9) rfl dX1_copyFrom_2 ?_
  refine va_put (D := D) (ci := 1) (v := .int s2) (ty := .int) (C := RX1) (T := TX1) (N := 7) hx hb hts i_X1 tyX1 tyX1_ok nmX1 hown hK hP hD hS 0 rfl rfl 0 (by decide) (hts (Cond.fieldLink RX1 28 "BrownClock$Crystal" "seconds" "I") (List.mem_of_getElem? (i := 1) rfl)) (fun _ h9 => h9) rfl (by decide +kernel) rfl rfl (Nat.le_of_ble_eq_true rfl) dX1_copyFrom_5 (fun H locs hP hD hS => ?_)
  have hP : va_P D vwCl (fl [[ob h 1 [.int s2, .int r1, .int v1, .int e1, .int n1, .long x1, .long y1]], [ob q 1 [.int s2, .int r2, .int (bz v2), .int e2, .int n2, .long x2, .long y2]]]) H := hP
  have hD : va_D A (fl [[ob h 1 [.int s2, .int r1, .int v1, .int e1, .int n1, .long x1, .long y1]], [ob q 1 [.int s2, .int r2, .int (bz v2), .int e2, .int n2, .long x2, .long y2]]]) := hD
  refine lv_aload_n hx hb dX1_copyFrom_8 rfl (lv_at hl 0 rfl) ?_
  refine lv_aload_n hx hb dX1_copyFrom_9 rfl (lv_at hl 1 rfl) ?_
  refine va_get (D := D) (ci := 1) (v := .int r2) (C := RX1) (T := TX1) (N := 7) hx hb hts i_X1 hown hK hP 1 rfl rfl 1 (by decide) (hts (Cond.fieldLink RX1 31 "BrownClock$Crystal" "rest" "I") (List.mem_of_getElem? (i := 2) rfl)) (fun _ h9 => h9) rfl dX1_copyFrom_10 ?_
  refine va_put (D := D) (ci := 1) (v := .int r2) (ty := .int) (C := RX1) (T := TX1) (N := 7) hx hb hts i_X1 tyX1 tyX1_ok nmX1 hown hK hP hD hS 0 rfl rfl 1 (by decide) (hts (Cond.fieldLink RX1 31 "BrownClock$Crystal" "rest" "I") (List.mem_of_getElem? (i := 2) rfl)) (fun _ h9 => h9) rfl (by decide +kernel) rfl rfl (Nat.le_of_ble_eq_true rfl) dX1_copyFrom_13 (fun H locs hP hD hS => ?_)
  have hP : va_P D vwCl (fl [[ob h 1 [.int s2, .int r2, .int v1, .int e1, .int n1, .long x1, .long y1]], [ob q 1 [.int s2, .int r2, .int (bz v2), .int e2, .int n2, .long x2, .long y2]]]) H := hP
  have hD : va_D A (fl [[ob h 1 [.int s2, .int r2, .int v1, .int e1, .int n1, .long x1, .long y1]], [ob q 1 [.int s2, .int r2, .int (bz v2), .int e2, .int n2, .long x2, .long y2]]]) := hD
  refine lv_aload_n hx hb dX1_copyFrom_16 rfl (lv_at hl 0 rfl) ?_
  refine lv_aload_n hx hb dX1_copyFrom_17 rfl (lv_at hl 1 rfl) ?_
  refine va_get (D := D) (ci := 1) (v := .int (bz v2)) (C := RX1) (T := TX1) (N := 7) hx hb hts i_X1 hown hK hP 1 rfl rfl 2 (by decide) (hts (Cond.fieldLink RX1 34 "BrownClock$Crystal" "valid" "Z") (List.mem_of_getElem? (i := 3) rfl)) (fun _ h9 => h9) rfl dX1_copyFrom_18 ?_
  refine va_put (D := D) (ci := 1) (v := .int (bz v2)) (ty := .boolean) (C := RX1) (T := TX1) (N := 7) hx hb hts i_X1 tyX1 tyX1_ok nmX1 hown hK hP hD hS 0 rfl rfl 2 (by decide) (hts (Cond.fieldLink RX1 34 "BrownClock$Crystal" "valid" "Z") (List.mem_of_getElem? (i := 3) rfl)) (fun _ h9 => h9) rfl (by decide +kernel) (bz_nar _) (bz_fit _) (Nat.le_of_ble_eq_true rfl) dX1_copyFrom_21 (fun H locs hP hD hS => ?_)
  have hP : va_P D vwCl (fl [[ob h 1 [.int s2, .int r2, .int (bz v2), .int e1, .int n1, .long x1, .long y1]], [ob q 1 [.int s2, .int r2, .int (bz v2), .int e2, .int n2, .long x2, .long y2]]]) H := hP
  have hD : va_D A (fl [[ob h 1 [.int s2, .int r2, .int (bz v2), .int e1, .int n1, .long x1, .long y1]], [ob q 1 [.int s2, .int r2, .int (bz v2), .int e2, .int n2, .long x2, .long y2]]]) := hD
  refine lv_aload_n hx hb dX1_copyFrom_24 rfl (lv_at hl 0 rfl) ?_
  refine lv_aload_n hx hb dX1_copyFrom_25 rfl (lv_at hl 1 rfl) ?_
  refine va_get (D := D) (ci := 1) (v := .int e2) (C := RX1) (T := TX1) (N := 7) hx hb hts i_X1 hown hK hP 1 rfl rfl 3 (by decide) (hts (Cond.fieldLink RX1 14 "BrownClock$Crystal" "error" "I") (List.mem_of_getElem? (i := 4) rfl)) (fun _ h9 => h9) rfl dX1_copyFrom_26 ?_
  refine va_put (D := D) (ci := 1) (v := .int e2) (ty := .int) (C := RX1) (T := TX1) (N := 7) hx hb hts i_X1 tyX1 tyX1_ok nmX1 hown hK hP hD hS 0 rfl rfl 3 (by decide) (hts (Cond.fieldLink RX1 14 "BrownClock$Crystal" "error" "I") (List.mem_of_getElem? (i := 4) rfl)) (fun _ h9 => h9) rfl (by decide +kernel) rfl rfl (Nat.le_of_ble_eq_true rfl) dX1_copyFrom_29 (fun H locs hP hD hS => ?_)
  have hP : va_P D vwCl (fl [[ob h 1 [.int s2, .int r2, .int (bz v2), .int e2, .int n1, .long x1, .long y1]], [ob q 1 [.int s2, .int r2, .int (bz v2), .int e2, .int n2, .long x2, .long y2]]]) H := hP
  have hD : va_D A (fl [[ob h 1 [.int s2, .int r2, .int (bz v2), .int e2, .int n1, .long x1, .long y1]], [ob q 1 [.int s2, .int r2, .int (bz v2), .int e2, .int n2, .long x2, .long y2]]]) := hD
  refine lv_aload_n hx hb dX1_copyFrom_32 rfl (lv_at hl 0 rfl) ?_
  refine lv_aload_n hx hb dX1_copyFrom_33 rfl (lv_at hl 1 rfl) ?_
  refine va_get (D := D) (ci := 1) (v := .int n2) (C := RX1) (T := TX1) (N := 7) hx hb hts i_X1 hown hK hP 1 rfl rfl 4 (by decide) (hts (Cond.fieldLink RX1 18 "BrownClock$Crystal" "correction" "I") (List.mem_of_getElem? (i := 5) rfl)) (fun _ h9 => h9) rfl dX1_copyFrom_34 ?_
  refine va_put (D := D) (ci := 1) (v := .int n2) (ty := .int) (C := RX1) (T := TX1) (N := 7) hx hb hts i_X1 tyX1 tyX1_ok nmX1 hown hK hP hD hS 0 rfl rfl 4 (by decide) (hts (Cond.fieldLink RX1 18 "BrownClock$Crystal" "correction" "I") (List.mem_of_getElem? (i := 5) rfl)) (fun _ h9 => h9) rfl (by decide +kernel) rfl rfl (Nat.le_of_ble_eq_true rfl) dX1_copyFrom_37 (fun H locs hP hD hS => ?_)
  have hP : va_P D vwCl (fl [[ob h 1 [.int s2, .int r2, .int (bz v2), .int e2, .int n2, .long x1, .long y1]], [ob q 1 [.int s2, .int r2, .int (bz v2), .int e2, .int n2, .long x2, .long y2]]]) H := hP
  have hD : va_D A (fl [[ob h 1 [.int s2, .int r2, .int (bz v2), .int e2, .int n2, .long x1, .long y1]], [ob q 1 [.int s2, .int r2, .int (bz v2), .int e2, .int n2, .long x2, .long y2]]]) := hD
  refine lv_aload_n hx hb dX1_copyFrom_40 rfl (lv_at hl 0 rfl) ?_
  refine lv_aload_n hx hb dX1_copyFrom_41 rfl (lv_at hl 1 rfl) ?_
  refine va_get (D := D) (ci := 1) (v := .long x2) (C := RX1) (T := TX1) (N := 7) hx hb hts i_X1 hown hK hP 1 rfl rfl 5 (by decide) (hts (Cond.fieldLink RX1 21 "BrownClock$Crystal" "correctionSum" "J") (List.mem_of_getElem? (i := 6) rfl)) (fun _ h9 => h9) rfl dX1_copyFrom_42 ?_
  refine va_put (D := D) (ci := 1) (v := .long x2) (ty := .long) (C := RX1) (T := TX1) (N := 7) hx hb hts i_X1 tyX1 tyX1_ok nmX1 hown hK hP hD hS 0 rfl rfl 5 (by decide) (hts (Cond.fieldLink RX1 21 "BrownClock$Crystal" "correctionSum" "J") (List.mem_of_getElem? (i := 6) rfl)) (fun _ h9 => h9) rfl (by decide +kernel) rfl rfl (Nat.le_of_ble_eq_true rfl) dX1_copyFrom_45 (fun H locs hP hD hS => ?_)
  have hP : va_P D vwCl (fl [[ob h 1 [.int s2, .int r2, .int (bz v2), .int e2, .int n2, .long x2, .long y1]], [ob q 1 [.int s2, .int r2, .int (bz v2), .int e2, .int n2, .long x2, .long y2]]]) H := hP
  have hD : va_D A (fl [[ob h 1 [.int s2, .int r2, .int (bz v2), .int e2, .int n2, .long x2, .long y1]], [ob q 1 [.int s2, .int r2, .int (bz v2), .int e2, .int n2, .long x2, .long y2]]]) := hD
  refine lv_aload_n hx hb dX1_copyFrom_48 rfl (lv_at hl 0 rfl) ?_
  refine lv_aload_n hx hb dX1_copyFrom_49 rfl (lv_at hl 1 rfl) ?_
  refine va_get (D := D) (ci := 1) (v := .long y2) (C := RX1) (T := TX1) (N := 7) hx hb hts i_X1 hown hK hP 1 rfl rfl 6 (by decide) (hts (Cond.fieldLink RX1 25 "BrownClock$Crystal" "driftSum" "J") (List.mem_of_getElem? (i := 7) rfl)) (fun _ h9 => h9) rfl dX1_copyFrom_50 ?_
  refine va_put (D := D) (ci := 1) (v := .long y2) (ty := .long) (C := RX1) (T := TX1) (N := 7) hx hb hts i_X1 tyX1 tyX1_ok nmX1 hown hK hP hD hS 0 rfl rfl 6 (by decide) (hts (Cond.fieldLink RX1 25 "BrownClock$Crystal" "driftSum" "J") (List.mem_of_getElem? (i := 7) rfl)) (fun _ h9 => h9) rfl (by decide +kernel) rfl rfl (Nat.le_of_ble_eq_true rfl) dX1_copyFrom_53 (fun H locs hP hD hS => ?_)
  have hP : va_P D vwCl (fl [[ob h 1 [.int s2, .int r2, .int (bz v2), .int e2, .int n2, .long x2, .long y2]], [ob q 1 [.int s2, .int r2, .int (bz v2), .int e2, .int n2, .long x2, .long y2]]]) H := hP
  have hD : va_D A (fl [[ob h 1 [.int s2, .int r2, .int (bz v2), .int e2, .int n2, .long x2, .long y2]], [ob q 1 [.int s2, .int r2, .int (bz v2), .int e2, .int n2, .long x2, .long y2]]]) := hD
  have hP : va_P D vwCl (fl [[ob h 1 [.int s2, .int r2, .int (bz v2), .int e2, .int n2, .long x2, .long y2]], [ob q 1 [.int s2, .int r2, .int (bz v2), .int e2, .int n2, .long x2, .long y2]]]) _ := hP
  have hD : va_D A (fl [[ob h 1 [.int s2, .int r2, .int (bz v2), .int e2, .int n2, .long x2, .long y2]], [ob q 1 [.int s2, .int r2, .int (bz v2), .int e2, .int n2, .long x2, .long y2]]]) := D_same rfl hD
  exact end_v (bs' := (fun (_ : Unit) => [[ob h 1 [.int s2, .int r2, .int (bz v2), .int e2, .int n2, .long x2, .long y2]], [ob q 1 [.int s2, .int r2, .int (bz v2), .int e2, .int n2, .long x2, .long y2]]])) () hx hb hr hlocks hP hD hS trivial (Nat.le_of_ble_eq_true rfl) (Nat.le_of_ble_eq_true rfl) dX1_copyFrom_56
set_option maxHeartbeats 4000000 in
set_option maxRecDepth 100000 in
theorem c_X1_minute (l : Launch) (D : va_G) (ty : Nat → ClassId) (h : Nat) (s1 r1 v1 e1 n1 : Int32) (x1 y1 : Int64) : CTi l yX1_minute wsX1_minute ({ frames := 0, cells := 0, slots := 0, locals := 0 }) D ty [.ref h] [[ob h 1 [.int s1, .int r1, .int v1, .int e1, .int n1, .long x1, .long y1]]] (fun (RET : Int32) (_ : Unit) => RET = (s1 / 60)) (fun (_ : Unit) => [[ob h 1 [.int s1, .int r1, .int v1, .int e1, .int n1, .long x1, .long y1]]]) := by
  refine CTi_of cX1_minute 1 (some .int) (by decide) rfl (Nat.le_of_ble_eq_true rfl) ?_
  intro p e s m args below meth c A hx hb hr hml hown hlocks hin hts hA hX hK hP hD ls hl
  have hown : s.vm.findClass RX1 = some m.cls := hown
  have hS : va_S A s.heap s.heap [] := va_S.rf
  have i_X1 : ∀ z ∈ wsX10, z ∈ wsX1_minute := fun z h => List.mem_cons_of_mem _ (List.mem_append_right _ h)
  have hl : lv_has ls 1 [(0, .ref h)] := hl
  refine lv_aload_n hx hb dX1_minute_0 rfl (lv_at hl 0 rfl) ?_
  refine va_get (D := D) (ci := 1) (v := .int s1) (C := RX1) (T := TX1) (N := 7) hx hb hts i_X1 hown hK hP 0 rfl rfl 0 (by decide) (hts (Cond.fieldLink RX1 28 "BrownClock$Crystal" "seconds" "I") (List.mem_of_getElem? (i := 1) rfl)) (fun _ h9 => h9) rfl dX1_minute_1 ?_
  refine lv_bipush (v := 60) hx hb dX1_minute_4 (by decide) ?_
  refine k_idiv (v := (s1 / 60)) hx hb dX1_minute_6 (by decide) rfl ?_
  have hP : va_P D vwCl (fl [[ob h 1 [.int s1, .int r1, .int v1, .int e1, .int n1, .long x1, .long y1]]]) _ := hP
  have hD : va_D A (fl [[ob h 1 [.int s1, .int r1, .int v1, .int e1, .int n1, .long x1, .long y1]]]) := D_same rfl hD
  exact end_i (bs' := (fun (_ : Unit) => [[ob h 1 [.int s1, .int r1, .int v1, .int e1, .int n1, .long x1, .long y1]]])) () hx hb hr hlocks hP hD hS (by first | rfl | decide | simp []) (Nat.le_of_ble_eq_true rfl) (Nat.le_of_ble_eq_true rfl) dX1_minute_7
set_option maxHeartbeats 4000000 in
set_option maxRecDepth 100000 in
theorem c_X1_goOn (l : Launch) (D : va_G) (ty : Nat → ClassId) (h : Nat) (s1 r1 v1 e1 n1 : Int32) (x1 y1 : Int64) : CTv l yX1_goOn wsX1_goOn ({ frames := 0, cells := 0, slots := 0, locals := 0 }) D ty [.ref h] [[ob h 1 [.int s1, .int r1, .int v1, .int e1, .int n1, .long x1, .long y1]]] (fun (_ : Unit) => True) (fun (_ : Unit) => [[ob h 1 [.int (s1 + 60 + (r1 + (e1 - n1) * 60) / 1000000), .int ((r1 + (e1 - n1) * 60) - (r1 + (e1 - n1) * 60) / 1000000 * 1000000), .int v1, .int e1, .int n1, .long (x1 + Int32.toInt64 (n1 * 60)), .long (y1 + Int32.toInt64 ((e1 - n1) * 60))]]]) := by
  refine CTv_of cX1_goOn 3 none (by decide) rfl (Nat.le_of_ble_eq_true rfl) ?_
  intro p e s m args below meth c A hx hb hr hml hown hlocks hin hts hA hX hK hP hD ls hl
  have hown : s.vm.findClass RX1 = some m.cls := hown
  have hS : va_S A s.heap s.heap [] := va_S.rf
  have i_X1 : ∀ z ∈ wsX10, z ∈ wsX1_goOn := fun z h => List.mem_cons_of_mem _ (List.mem_append_right _ h)
  have hl : lv_has ls 3 [(0, .ref h)] := hl
  refine lv_aload_n hx hb dX1_goOn_0 rfl (lv_at hl 0 rfl) ?_
  refine va_get (D := D) (ci := 1) (v := .int e1) (C := RX1) (T := TX1) (N := 7) hx hb hts i_X1 hown hK hP 0 rfl rfl 3 (by decide) (hts (Cond.fieldLink RX1 14 "BrownClock$Crystal" "error" "I") (List.mem_of_getElem? (i := 1) rfl)) (fun _ h9 => h9) rfl dX1_goOn_1 ?_
  refine lv_aload_n hx hb dX1_goOn_4 rfl (lv_at hl 0 rfl) ?_
  refine va_get (D := D) (ci := 1) (v := .int n1) (C := RX1) (T := TX1) (N := 7) hx hb hts i_X1 hown hK hP 0 rfl rfl 4 (by decide) (hts (Cond.fieldLink RX1 18 "BrownClock$Crystal" "correction" "I") (List.mem_of_getElem? (i := 2) rfl)) (fun _ h9 => h9) rfl dX1_goOn_5 ?_
  refine k_isub (v := (e1 - n1)) hx hb dX1_goOn_8 rfl ?_
  refine lv_bipush (v := 60) hx hb dX1_goOn_9 (by decide) ?_
  refine k_imul (v := ((e1 - n1) * 60)) hx hb dX1_goOn_11 rfl ?_
  refine lv_istore_n (lv' := [(1, .int ((e1 - n1) * 60)), (0, .ref h)]) hx hb dX1_goOn_12 rfl hl (by decide) rfl (fun ls hl => ?_)
  refine lv_aload_n hx hb dX1_goOn_13 rfl (lv_at hl 1 rfl) ?_
  refine lv_dup hx hb dX1_goOn_14 rfl ?_
  refine va_get (D := D) (ci := 1) (v := .int s1) (C := RX1) (T := TX1) (N := 7) hx hb hts i_X1 hown hK hP 0 rfl rfl 0 (by decide) (hts (Cond.fieldLink RX1 28 "BrownClock$Crystal" "seconds" "I") (List.mem_of_getElem? (i := 3) rfl)) (fun _ h9 => h9) rfl dX1_goOn_15 ?_
  refine lv_bipush (v := 60) hx hb dX1_goOn_18 (by decide) ?_
  refine k_iadd (v := (s1 + 60)) hx hb dX1_goOn_20 rfl ?_
  refine va_put (D := D) (ci := 1) (v := .int (s1 + 60)) (ty := .int) (C := RX1) (T := TX1) (N := 7) hx hb hts i_X1 tyX1 tyX1_ok nmX1 hown hK hP hD hS 0 rfl rfl 0 (by decide) (hts (Cond.fieldLink RX1 28 "BrownClock$Crystal" "seconds" "I") (List.mem_of_getElem? (i := 3) rfl)) (fun _ h9 => h9) rfl (by decide +kernel) rfl rfl (Nat.le_of_ble_eq_true rfl) dX1_goOn_21 (fun H locs hP hD hS => ?_)
  have hP : va_P D vwCl (fl [[ob h 1 [.int (s1 + 60), .int r1, .int v1, .int e1, .int n1, .long x1, .long y1]]]) H := hP
  have hD : va_D A (fl [[ob h 1 [.int (s1 + 60), .int r1, .int v1, .int e1, .int n1, .long x1, .long y1]]]) := hD
  refine lv_aload_n hx hb dX1_goOn_24 rfl (lv_at hl 1 rfl) ?_
  refine lv_dup hx hb dX1_goOn_25 rfl ?_
  refine va_get (D := D) (ci := 1) (v := .int r1) (C := RX1) (T := TX1) (N := 7) hx hb hts i_X1 hown hK hP 0 rfl rfl 1 (by decide) (hts (Cond.fieldLink RX1 31 "BrownClock$Crystal" "rest" "I") (List.mem_of_getElem? (i := 4) rfl)) (fun _ h9 => h9) rfl dX1_goOn_26 ?_
  refine lv_iload_n hx hb dX1_goOn_29 rfl (lv_at hl 0 rfl) ?_
  refine k_iadd (v := (r1 + ((e1 - n1) * 60))) hx hb dX1_goOn_30 rfl ?_
  refine va_put (D := D) (ci := 1) (v := .int (r1 + ((e1 - n1) * 60))) (ty := .int) (C := RX1) (T := TX1) (N := 7) hx hb hts i_X1 tyX1 tyX1_ok nmX1 hown hK hP hD hS 0 rfl rfl 1 (by decide) (hts (Cond.fieldLink RX1 31 "BrownClock$Crystal" "rest" "I") (List.mem_of_getElem? (i := 4) rfl)) (fun _ h9 => h9) rfl (by decide +kernel) rfl rfl (Nat.le_of_ble_eq_true rfl) dX1_goOn_31 (fun H locs hP hD hS => ?_)
  have hP : va_P D vwCl (fl [[ob h 1 [.int (s1 + 60), .int (r1 + ((e1 - n1) * 60)), .int v1, .int e1, .int n1, .long x1, .long y1]]]) H := hP
  have hD : va_D A (fl [[ob h 1 [.int (s1 + 60), .int (r1 + ((e1 - n1) * 60)), .int v1, .int e1, .int n1, .long x1, .long y1]]]) := hD
  refine lv_aload_n hx hb dX1_goOn_34 rfl (lv_at hl 1 rfl) ?_
  refine lv_dup hx hb dX1_goOn_35 rfl ?_
  refine va_get (D := D) (ci := 1) (v := .long x1) (C := RX1) (T := TX1) (N := 7) hx hb hts i_X1 hown hK hP 0 rfl rfl 5 (by decide) (hts (Cond.fieldLink RX1 21 "BrownClock$Crystal" "correctionSum" "J") (List.mem_of_getElem? (i := 5) rfl)) (fun _ h9 => h9) rfl dX1_goOn_36 ?_
  refine lv_aload_n hx hb dX1_goOn_39 rfl (lv_at hl 1 rfl) ?_
  refine va_get (D := D) (ci := 1) (v := .int n1) (C := RX1) (T := TX1) (N := 7) hx hb hts i_X1 hown hK hP 0 rfl rfl 4 (by decide) (hts (Cond.fieldLink RX1 18 "BrownClock$Crystal" "correction" "I") (List.mem_of_getElem? (i := 2) rfl)) (fun _ h9 => h9) rfl dX1_goOn_40 ?_
  refine lv_bipush (v := 60) hx hb dX1_goOn_43 (by decide) ?_
  refine k_imul (v := (n1 * 60)) hx hb dX1_goOn_45 rfl ?_
  refine lv_i2l (v := (Int32.toInt64 (n1 * 60))) hx hb dX1_goOn_46 rfl ?_
  refine k_ladd (v := (x1 + (Int32.toInt64 (n1 * 60)))) hx hb dX1_goOn_47 rfl ?_
  refine va_put (D := D) (ci := 1) (v := .long (x1 + (Int32.toInt64 (n1 * 60)))) (ty := .long) (C := RX1) (T := TX1) (N := 7) hx hb hts i_X1 tyX1 tyX1_ok nmX1 hown hK hP hD hS 0 rfl rfl 5 (by decide) (hts (Cond.fieldLink RX1 21 "BrownClock$Crystal" "correctionSum" "J") (List.mem_of_getElem? (i := 5) rfl)) (fun _ h9 => h9) rfl (by decide +kernel) rfl rfl (Nat.le_of_ble_eq_true rfl) dX1_goOn_48 (fun H locs hP hD hS => ?_)
  have hP : va_P D vwCl (fl [[ob h 1 [.int (s1 + 60), .int (r1 + ((e1 - n1) * 60)), .int v1, .int e1, .int n1, .long (x1 + (Int32.toInt64 (n1 * 60))), .long y1]]]) H := hP
  have hD : va_D A (fl [[ob h 1 [.int (s1 + 60), .int (r1 + ((e1 - n1) * 60)), .int v1, .int e1, .int n1, .long (x1 + (Int32.toInt64 (n1 * 60))), .long y1]]]) := hD
  refine lv_aload_n hx hb dX1_goOn_51 rfl (lv_at hl 1 rfl) ?_
  refine lv_dup hx hb dX1_goOn_52 rfl ?_
  refine va_get (D := D) (ci := 1) (v := .long y1) (C := RX1) (T := TX1) (N := 7) hx hb hts i_X1 hown hK hP 0 rfl rfl 6 (by decide) (hts (Cond.fieldLink RX1 25 "BrownClock$Crystal" "driftSum" "J") (List.mem_of_getElem? (i := 6) rfl)) (fun _ h9 => h9) rfl dX1_goOn_53 ?_
  refine lv_iload_n hx hb dX1_goOn_56 rfl (lv_at hl 0 rfl) ?_
  refine lv_i2l (v := (Int32.toInt64 ((e1 - n1) * 60))) hx hb dX1_goOn_57 rfl ?_
  refine k_ladd (v := (y1 + (Int32.toInt64 ((e1 - n1) * 60)))) hx hb dX1_goOn_58 rfl ?_
  refine va_put (D := D) (ci := 1) (v := .long (y1 + (Int32.toInt64 ((e1 - n1) * 60)))) (ty := .long) (C := RX1) (T := TX1) (N := 7) hx hb hts i_X1 tyX1 tyX1_ok nmX1 hown hK hP hD hS 0 rfl rfl 6 (by decide) (hts (Cond.fieldLink RX1 25 "BrownClock$Crystal" "driftSum" "J") (List.mem_of_getElem? (i := 6) rfl)) (fun _ h9 => h9) rfl (by decide +kernel) rfl rfl (Nat.le_of_ble_eq_true rfl) dX1_goOn_59 (fun H locs hP hD hS => ?_)
  have hP : va_P D vwCl (fl [[ob h 1 [.int (s1 + 60), .int (r1 + ((e1 - n1) * 60)), .int v1, .int e1, .int n1, .long (x1 + (Int32.toInt64 (n1 * 60))), .long (y1 + (Int32.toInt64 ((e1 - n1) * 60)))]]]) H := hP
  have hD : va_D A (fl [[ob h 1 [.int (s1 + 60), .int (r1 + ((e1 - n1) * 60)), .int v1, .int e1, .int n1, .long (x1 + (Int32.toInt64 (n1 * 60))), .long (y1 + (Int32.toInt64 ((e1 - n1) * 60)))]]]) := hD
  refine lv_aload_n hx hb dX1_goOn_62 rfl (lv_at hl 1 rfl) ?_
  refine va_get (D := D) (ci := 1) (v := .int (r1 + ((e1 - n1) * 60))) (C := RX1) (T := TX1) (N := 7) hx hb hts i_X1 hown hK hP 0 rfl rfl 1 (by decide) (hts (Cond.fieldLink RX1 31 "BrownClock$Crystal" "rest" "I") (List.mem_of_getElem? (i := 4) rfl)) (fun _ h9 => h9) rfl dX1_goOn_63 ?_
  refine lv_ldc hx hb hown (hts (Cond.constant RX1 38 (1000000)) (List.mem_of_getElem? (i := 7) rfl)) dX1_goOn_66 ?_
  refine k_idiv (v := ((r1 + ((e1 - n1) * 60)) / 1000000)) hx hb dX1_goOn_68 (by decide) rfl ?_
  refine lv_istore_n (lv' := [(2, .int ((r1 + ((e1 - n1) * 60)) / 1000000)), (1, .int ((e1 - n1) * 60)), (0, .ref h)]) hx hb dX1_goOn_69 rfl hl (by decide) rfl (fun ls hl => ?_)
  refine lv_aload_n hx hb dX1_goOn_70 rfl (lv_at hl 2 rfl) ?_
  refine lv_dup hx hb dX1_goOn_71 rfl ?_
  refine va_get (D := D) (ci := 1) (v := .int (s1 + 60)) (C := RX1) (T := TX1) (N := 7) hx hb hts i_X1 hown hK hP 0 rfl rfl 0 (by decide) (hts (Cond.fieldLink RX1 28 "BrownClock$Crystal" "seconds" "I") (List.mem_of_getElem? (i := 3) rfl)) (fun _ h9 => h9) rfl dX1_goOn_72 ?_
  refine lv_iload_n hx hb dX1_goOn_75 rfl (lv_at hl 0 rfl) ?_
  refine k_iadd (v := ((s1 + 60) + ((r1 + ((e1 - n1) * 60)) / 1000000))) hx hb dX1_goOn_76 rfl ?_
  refine va_put (D := D) (ci := 1) (v := .int ((s1 + 60) + ((r1 + ((e1 - n1) * 60)) / 1000000))) (ty := .int) (C := RX1) (T := TX1) (N := 7) hx hb hts i_X1 tyX1 tyX1_ok nmX1 hown hK hP hD hS 0 rfl rfl 0 (by decide) (hts (Cond.fieldLink RX1 28 "BrownClock$Crystal" "seconds" "I") (List.mem_of_getElem? (i := 3) rfl)) (fun _ h9 => h9) rfl (by decide +kernel) rfl rfl (Nat.le_of_ble_eq_true rfl) dX1_goOn_77 (fun H locs hP hD hS => ?_)
  have hP : va_P D vwCl (fl [[ob h 1 [.int ((s1 + 60) + ((r1 + ((e1 - n1) * 60)) / 1000000)), .int (r1 + ((e1 - n1) * 60)), .int v1, .int e1, .int n1, .long (x1 + (Int32.toInt64 (n1 * 60))), .long (y1 + (Int32.toInt64 ((e1 - n1) * 60)))]]]) H := hP
  have hD : va_D A (fl [[ob h 1 [.int ((s1 + 60) + ((r1 + ((e1 - n1) * 60)) / 1000000)), .int (r1 + ((e1 - n1) * 60)), .int v1, .int e1, .int n1, .long (x1 + (Int32.toInt64 (n1 * 60))), .long (y1 + (Int32.toInt64 ((e1 - n1) * 60)))]]]) := hD
  refine lv_aload_n hx hb dX1_goOn_80 rfl (lv_at hl 2 rfl) ?_
  refine lv_dup hx hb dX1_goOn_81 rfl ?_
  refine va_get (D := D) (ci := 1) (v := .int (r1 + ((e1 - n1) * 60))) (C := RX1) (T := TX1) (N := 7) hx hb hts i_X1 hown hK hP 0 rfl rfl 1 (by decide) (hts (Cond.fieldLink RX1 31 "BrownClock$Crystal" "rest" "I") (List.mem_of_getElem? (i := 4) rfl)) (fun _ h9 => h9) rfl dX1_goOn_82 ?_
  refine lv_iload_n hx hb dX1_goOn_85 rfl (lv_at hl 0 rfl) ?_
  refine lv_ldc hx hb hown (hts (Cond.constant RX1 38 (1000000)) (List.mem_of_getElem? (i := 7) rfl)) dX1_goOn_86 ?_
  refine k_imul (v := (((r1 + ((e1 - n1) * 60)) / 1000000) * 1000000)) hx hb dX1_goOn_88 rfl ?_
  refine k_isub (v := ((r1 + ((e1 - n1) * 60)) - (((r1 + ((e1 - n1) * 60)) / 1000000) * 1000000))) hx hb dX1_goOn_89 rfl ?_
  refine va_put (D := D) (ci := 1) (v := .int ((r1 + ((e1 - n1) * 60)) - (((r1 + ((e1 - n1) * 60)) / 1000000) * 1000000))) (ty := .int) (C := RX1) (T := TX1) (N := 7) hx hb hts i_X1 tyX1 tyX1_ok nmX1 hown hK hP hD hS 0 rfl rfl 1 (by decide) (hts (Cond.fieldLink RX1 31 "BrownClock$Crystal" "rest" "I") (List.mem_of_getElem? (i := 4) rfl)) (fun _ h9 => h9) rfl (by decide +kernel) rfl rfl (Nat.le_of_ble_eq_true rfl) dX1_goOn_90 (fun H locs hP hD hS => ?_)
  have hP : va_P D vwCl (fl [[ob h 1 [.int ((s1 + 60) + ((r1 + ((e1 - n1) * 60)) / 1000000)), .int ((r1 + ((e1 - n1) * 60)) - (((r1 + ((e1 - n1) * 60)) / 1000000) * 1000000)), .int v1, .int e1, .int n1, .long (x1 + (Int32.toInt64 (n1 * 60))), .long (y1 + (Int32.toInt64 ((e1 - n1) * 60)))]]]) H := hP
  have hD : va_D A (fl [[ob h 1 [.int ((s1 + 60) + ((r1 + ((e1 - n1) * 60)) / 1000000)), .int ((r1 + ((e1 - n1) * 60)) - (((r1 + ((e1 - n1) * 60)) / 1000000) * 1000000)), .int v1, .int e1, .int n1, .long (x1 + (Int32.toInt64 (n1 * 60))), .long (y1 + (Int32.toInt64 ((e1 - n1) * 60)))]]]) := hD
  have hP : va_P D vwCl (fl [[ob h 1 [.int (s1 + 60 + (r1 + (e1 - n1) * 60) / 1000000), .int ((r1 + (e1 - n1) * 60) - (r1 + (e1 - n1) * 60) / 1000000 * 1000000), .int v1, .int e1, .int n1, .long (x1 + Int32.toInt64 (n1 * 60)), .long (y1 + Int32.toInt64 ((e1 - n1) * 60))]]]) _ := hP
  have hD : va_D A (fl [[ob h 1 [.int (s1 + 60 + (r1 + (e1 - n1) * 60) / 1000000), .int ((r1 + (e1 - n1) * 60) - (r1 + (e1 - n1) * 60) / 1000000 * 1000000), .int v1, .int e1, .int n1, .long (x1 + Int32.toInt64 (n1 * 60)), .long (y1 + Int32.toInt64 ((e1 - n1) * 60))]]]) := D_same rfl hD
  exact end_v (bs' := (fun (_ : Unit) => [[ob h 1 [.int (s1 + 60 + (r1 + (e1 - n1) * 60) / 1000000), .int ((r1 + (e1 - n1) * 60) - (r1 + (e1 - n1) * 60) / 1000000 * 1000000), .int v1, .int e1, .int n1, .long (x1 + Int32.toInt64 (n1 * 60)), .long (y1 + Int32.toInt64 ((e1 - n1) * 60))]]])) () hx hb hr hlocks hP hD hS trivial (Nat.le_of_ble_eq_true rfl) (Nat.le_of_ble_eq_true rfl) dX1_goOn_93
set_option maxHeartbeats 4000000 in
set_option maxRecDepth 100000 in
theorem c_X1_winsWith (l : Launch) (D : va_G) (ty : Nat → ClassId) (h : Nat) (z w s1 r1 v1 e1 n1 : Int32) (x1 y1 : Int64) : CTi l yX1_winsWith wsX1_winsWith ({ frames := 0, cells := 0, slots := 0, locals := 0 }) D ty [.ref h, .int z, .int w] [[ob h 1 [.int s1, .int r1, .int v1, .int e1, .int n1, .long x1, .long y1]]] (fun (RET : Int32) (_ : Unit) => RET = ((r1 + z * (e1 - w) * 60) / 1000000)) (fun (_ : Unit) => [[ob h 1 [.int s1, .int r1, .int v1, .int e1, .int n1, .long x1, .long y1]]]) := by
  refine CTi_of cX1_winsWith 3 (some .int) (by decide) rfl (Nat.le_of_ble_eq_true rfl) ?_
  intro p e s m args below meth c A hx hb hr hml hown hlocks hin hts hA hX hK hP hD ls hl
  have hown : s.vm.findClass RX1 = some m.cls := hown
  have hS : va_S A s.heap s.heap [] := va_S.rf
  have i_X1 : ∀ z ∈ wsX10, z ∈ wsX1_winsWith := fun z h => List.mem_cons_of_mem _ (List.mem_append_right _ h)
  have hl : lv_has ls 3 [(0, .ref h), (1, .int z), (2, .int w)] := hl
  refine lv_aload_n hx hb dX1_winsWith_0 rfl (lv_at hl 0 rfl) ?_
  refine va_get (D := D) (ci := 1) (v := .int r1) (C := RX1) (T := TX1) (N := 7) hx hb hts i_X1 hown hK hP 0 rfl rfl 1 (by decide) (hts (Cond.fieldLink RX1 31 "BrownClock$Crystal" "rest" "I") (List.mem_of_getElem? (i := 1) rfl)) (fun _ h9 => h9) rfl dX1_winsWith_1 ?_
  refine lv_iload_n hx hb dX1_winsWith_4 rfl (lv_at hl 1 rfl) ?_
  refine lv_aload_n hx hb dX1_winsWith_5 rfl (lv_at hl 0 rfl) ?_
  refine va_get (D := D) (ci := 1) (v := .int e1) (C := RX1) (T := TX1) (N := 7) hx hb hts i_X1 hown hK hP 0 rfl rfl 3 (by decide) (hts (Cond.fieldLink RX1 14 "BrownClock$Crystal" "error" "I") (List.mem_of_getElem? (i := 2) rfl)) (fun _ h9 => h9) rfl dX1_winsWith_6 ?_
  refine lv_iload_n hx hb dX1_winsWith_9 rfl (lv_at hl 2 rfl) ?_
  refine k_isub (v := (e1 - w)) hx hb dX1_winsWith_10 rfl ?_
  refine k_imul (v := (z * (e1 - w))) hx hb dX1_winsWith_11 rfl ?_
  refine lv_bipush (v := 60) hx hb dX1_winsWith_12 (by decide) ?_
  refine k_imul (v := ((z * (e1 - w)) * 60)) hx hb dX1_winsWith_14 rfl ?_
  refine k_iadd (v := (r1 + ((z * (e1 - w)) * 60))) hx hb dX1_winsWith_15 rfl ?_
  refine lv_ldc hx hb hown (hts (Cond.constant RX1 38 (1000000)) (List.mem_of_getElem? (i := 3) rfl)) dX1_winsWith_16 ?_
  refine k_idiv (v := ((r1 + ((z * (e1 - w)) * 60)) / 1000000)) hx hb dX1_winsWith_18 (by decide) rfl ?_
  have hP : va_P D vwCl (fl [[ob h 1 [.int s1, .int r1, .int v1, .int e1, .int n1, .long x1, .long y1]]]) _ := hP
  have hD : va_D A (fl [[ob h 1 [.int s1, .int r1, .int v1, .int e1, .int n1, .long x1, .long y1]]]) := D_same rfl hD
  exact end_i (bs' := (fun (_ : Unit) => [[ob h 1 [.int s1, .int r1, .int v1, .int e1, .int n1, .long x1, .long y1]]])) () hx hb hr hlocks hP hD hS (by first | rfl | decide | simp []) (Nat.le_of_ble_eq_true rfl) (Nat.le_of_ble_eq_true rfl) dX1_winsWith_19
set_option maxHeartbeats 4000000 in
set_option maxRecDepth 100000 in
theorem c_X6_domain (l : Launch) (D : va_G) (ty : Nat → ClassId) (h q : Nat) (l1 h1 z1 : Int32) : CTi l yX6_domain wsX6_domain ({ frames := 0, cells := 0, slots := 0, locals := 0 }) D ty [.ref h] [[ob h 5 [.ref q, .int l1, .int h1, .int z1]]] (fun (RET : Int32) (_ : Unit) => RET = (domv l1 h1)) (fun (_ : Unit) => [[ob h 5 [.ref q, .int l1, .int h1, .int z1]]]) := by
  refine CTi_of cX6_domain 1 (some .int) (by decide) rfl (Nat.le_of_ble_eq_true rfl) ?_
  intro p e s m args below meth c A hx hb hr hml hown hlocks hin hts hA hX hK hP hD ls hl
  have hown : s.vm.findClass RX6 = some m.cls := hown
  have hS : va_S A s.heap s.heap [] := va_S.rf
  have i_X6 : ∀ z ∈ wsX60, z ∈ wsX6_domain := fun z h => List.mem_cons_of_mem _ (List.mem_append_right _ h)
  have hl : lv_has ls 1 [(0, .ref h)] := hl
  refine lv_aload_n hx hb dX6_domain_0 rfl (lv_at hl 0 rfl) ?_
  refine va_get (D := D) (ci := 5) (v := .int l1) (C := RX6) (T := TX6) (N := 4) hx hb hts i_X6 hown hK hP 0 rfl rfl 1 (by decide) (hts (Cond.fieldLink RX6 15 "BrownClock$Supply" "level" "I") (List.mem_of_getElem? (i := 1) rfl)) (fun _ h9 => h9) rfl dX6_domain_1 ?_
  refine lv_bipush (v := 6) hx hb dX6_domain_4 (by decide) ?_
  refine lv_icmp_lt (tgt := 11) hx hb dX6_domain_6 (by decide) (fun c_1 => ?_) (fun c_1 => ?_)
  · skip
    refine lv_aload_n hx hb dX6_domain_11 rfl (lv_at hl 0 rfl) ?_
    refine va_get (D := D) (ci := 5) (v := .int h1) (C := RX6) (T := TX6) (N := 4) hx hb hts i_X6 hown hK hP 0 rfl rfl 2 (by decide) (hts (Cond.fieldLink RX6 19 "BrownClock$Supply" "charge" "I") (List.mem_of_getElem? (i := 2) rfl)) (fun _ h9 => h9) rfl dX6_domain_12 ?_
    refine lv_if_ne (tgt := 20) hx hb dX6_domain_15 (by decide) (fun c_2 => ?_) (fun c_2 => ?_)
    · skip
      refine lv_aload_n hx hb dX6_domain_20 rfl (lv_at hl 0 rfl) ?_
      refine va_get (D := D) (ci := 5) (v := .int l1) (C := RX6) (T := TX6) (N := 4) hx hb hts i_X6 hown hK hP 0 rfl rfl 1 (by decide) (hts (Cond.fieldLink RX6 15 "BrownClock$Supply" "level" "I") (List.mem_of_getElem? (i := 1) rfl)) (fun _ h9 => h9) rfl dX6_domain_21 ?_
      refine lv_iconst (v := 3) hx hb dX6_domain_24 (by decide) ?_
      refine lv_icmp_lt (tgt := 32) hx hb dX6_domain_25 (by decide) (fun c_3 => ?_) (fun c_3 => ?_)
      · skip
        refine lv_iconst (v := 2) hx hb dX6_domain_32 (by decide) ?_
        have hP : va_P D vwCl (fl [[ob h 5 [.ref q, .int l1, .int h1, .int z1]]]) _ := hP
        have hD : va_D A (fl [[ob h 5 [.ref q, .int l1, .int h1, .int z1]]]) := D_same rfl hD
        exact end_i (bs' := (fun (_ : Unit) => [[ob h 5 [.ref q, .int l1, .int h1, .int z1]]])) () hx hb hr hlocks hP hD hS (by first | rfl | decide | simp [domv, c_1, c_2, c_3]) (Nat.le_of_ble_eq_true rfl) (Nat.le_of_ble_eq_true rfl) dX6_domain_33
      · skip
        refine lv_iconst (v := 1) hx hb dX6_domain_28 (by decide) ?_
        refine lv_goto (tgt := 33) hx hb dX6_domain_29 (by decide) ?_
        have hP : va_P D vwCl (fl [[ob h 5 [.ref q, .int l1, .int h1, .int z1]]]) _ := hP
        have hD : va_D A (fl [[ob h 5 [.ref q, .int l1, .int h1, .int z1]]]) := D_same rfl hD
        exact end_i (bs' := (fun (_ : Unit) => [[ob h 5 [.ref q, .int l1, .int h1, .int z1]]])) () hx hb hr hlocks hP hD hS (by first | rfl | decide | simp [domv, c_1, c_2, c_3]) (Nat.le_of_ble_eq_true rfl) (Nat.le_of_ble_eq_true rfl) dX6_domain_33
    · skip
      refine lv_iconst (v := 3) hx hb dX6_domain_18 (by decide) ?_
      have hP : va_P D vwCl (fl [[ob h 5 [.ref q, .int l1, .int h1, .int z1]]]) _ := hP
      have hD : va_D A (fl [[ob h 5 [.ref q, .int l1, .int h1, .int z1]]]) := D_same rfl hD
      exact end_i (bs' := (fun (_ : Unit) => [[ob h 5 [.ref q, .int l1, .int h1, .int z1]]])) () hx hb hr hlocks hP hD hS (by first | rfl | decide | simp [domv, c_1, c_2]) (Nat.le_of_ble_eq_true rfl) (Nat.le_of_ble_eq_true rfl) dX6_domain_19
  · skip
    refine lv_iconst (v := 0) hx hb dX6_domain_9 (by decide) ?_
    have hP : va_P D vwCl (fl [[ob h 5 [.ref q, .int l1, .int h1, .int z1]]]) _ := hP
    have hD : va_D A (fl [[ob h 5 [.ref q, .int l1, .int h1, .int z1]]]) := D_same rfl hD
    exact end_i (bs' := (fun (_ : Unit) => [[ob h 5 [.ref q, .int l1, .int h1, .int z1]]])) () hx hb hr hlocks hP hD hS (by first | rfl | decide | simp [domv, c_1]) (Nat.le_of_ble_eq_true rfl) (Nat.le_of_ble_eq_true rfl) dX6_domain_10
set_option maxHeartbeats 4000000 in
set_option maxRecDepth 100000 in
theorem c_X6_minutesLeft (l : Launch) (D : va_G) (ty : Nat → ClassId) (h q : Nat) (l1 h1 z1 : Int32) : CTi l yX6_minutesLeft wsX6_minutesLeft ({ frames := 1, cells := 0, slots := 0, locals := 20 }) D ty [.ref h] [[ob h 5 [.ref q, .int l1, .int h1, .int z1]]] (fun (RET : Int32) (_ : Unit) => RET = (if domv l1 h1 = 0 then -99999999 else h1)) (fun (_ : Unit) => [[ob h 5 [.ref q, .int l1, .int h1, .int z1]]]) := by
  refine CTi_of cX6_minutesLeft 1 (some .int) (by decide) rfl (Nat.le_of_ble_eq_true rfl) ?_
  intro p e s m args below meth c A hx hb hr hml hown hlocks hin hts hA hX hK hP hD ls hl
  have hown : s.vm.findClass RX6 = some m.cls := hown
  have hS : va_S A s.heap s.heap [] := va_S.rf
  have i_X6 : ∀ z ∈ wsX60, z ∈ wsX6_minutesLeft := fun z h => List.mem_cons_of_mem _ (List.mem_append_right _ h)
  have hl : lv_has ls 1 [(0, .ref h)] := hl
  refine lv_aload_n hx hb dX6_minutesLeft_0 rfl (lv_at hl 0 rfl) ?_
  refine cVi (As := []) (rest := []) ⟨hx, hb, hml, hown, hts⟩ (c_X6_domain l D ty h q l1 h1 z1) (cwV 0 hts gX6_minutesLeft_X6_domain rfl rfl rfl (by decide +kernel) ⟨Nat.le_of_ble_eq_true rfl, Nat.le_of_ble_eq_true rfl⟩) hK hX hP hD hS hA (pk (bs := [[ob h 5 [.ref q, .int l1, .int h1, .int z1]]]) (bsc := [[ob h 5 [.ref q, .int l1, .int h1, .int z1]]]) (bsr := []) [0] [] (by decide) rfl rfl) (ci := 5) rfl 0 rfl rfl hl.1 rfl (by decide) dX6_minutesLeft_1 ⟨Nat.le_of_ble_eq_true rfl, Nat.le_of_ble_eq_true rfl⟩ (fun r_2 u_1 h_3 H locs hP hD hS => ?_)
  have h_3 : r_2 = (domv l1 h1) := h_3
  subst h_3
  have hP : va_P D vwCl (fl [[ob h 5 [.ref q, .int l1, .int h1, .int z1]]]) H := P_perm (po (bs := [[ob h 5 [.ref q, .int l1, .int h1, .int z1]]]) [0] (by decide) rfl) hP
  have hD : va_D A (fl [[ob h 5 [.ref q, .int l1, .int h1, .int z1]]]) := D_perm (po (bs := [[ob h 5 [.ref q, .int l1, .int h1, .int z1]]]) [0] (by decide) rfl) hD
  refine lv_if_ne (tgt := 12) hx hb dX6_minutesLeft_4 (by decide) (fun c_4 => ?_) (fun c_4 => ?_)
  · skip
    refine lv_aload_n hx hb dX6_minutesLeft_12 rfl (lv_at hl 0 rfl) ?_
    refine va_get (D := D) (ci := 5) (v := .int h1) (C := RX6) (T := TX6) (N := 4) hx hb hts i_X6 hown hK hP 0 rfl rfl 2 (by decide) (hts (Cond.fieldLink RX6 19 "BrownClock$Supply" "charge" "I") (List.mem_of_getElem? (i := 2) rfl)) (fun _ h9 => h9) rfl dX6_minutesLeft_13 ?_
    have hP : va_P D vwCl (fl [[ob h 5 [.ref q, .int l1, .int h1, .int z1]]]) _ := hP
    have hD : va_D A (fl [[ob h 5 [.ref q, .int l1, .int h1, .int z1]]]) := D_same rfl hD
    exact end_i (bs' := (fun (_ : Unit) => [[ob h 5 [.ref q, .int l1, .int h1, .int z1]]])) () hx hb hr hlocks hP hD hS (by first | rfl | decide | simp [c_4]) (Nat.le_of_ble_eq_true rfl) (Nat.le_of_ble_eq_true rfl) dX6_minutesLeft_16
  · skip
    refine lv_ldc hx hb hown (hts (Cond.constant RX6 35 (-99999999)) (List.mem_of_getElem? (i := 1) rfl)) dX6_minutesLeft_7 ?_
    refine lv_goto (tgt := 16) hx hb dX6_minutesLeft_9 (by decide) ?_
    have hP : va_P D vwCl (fl [[ob h 5 [.ref q, .int l1, .int h1, .int z1]]]) _ := hP
    have hD : va_D A (fl [[ob h 5 [.ref q, .int l1, .int h1, .int z1]]]) := D_same rfl hD
    exact end_i (bs' := (fun (_ : Unit) => [[ob h 5 [.ref q, .int l1, .int h1, .int z1]]])) () hx hb hr hlocks hP hD hS (by first | rfl | decide | simp [c_4]) (Nat.le_of_ble_eq_true rfl) (Nat.le_of_ble_eq_true rfl) dX6_minutesLeft_16
