set_option maxHeartbeats 4000000 in
set_option maxRecDepth 100000 in
theorem c_X1_init (l : Launch) (D : va_G) (ty : Nat → ClassId) (h : Nat) (s1 r1 v1 e1 n1 : Int32) (x1 y1 : Int64) : CTv l yX1_init wsX1_init ({ frames := 1, cells := 0, slots := 0, locals := 20 }) D ty [.ref h] [[ob h 1 [.int s1, .int r1, .int v1, .int e1, .int n1, .long x1, .long y1]]] (fun (_ : Unit) => True) (fun (_ : Unit) => [[ob h 1 [.int s1, .int r1, .int v1, .int e1, .int n1, .long x1, .long y1]]]) := by
  refine CTv_of cX1_init 1 none (by decide) rfl (Nat.le_of_ble_eq_true rfl) ?_
  intro p e s m args below meth c A hx hb hr hml hown hlocks hin hts hA hX hK hP hD ls hl
  have hown : s.vm.findClass RX1 = some m.cls := hown
  have hS : va_S A s.heap s.heap [] := va_S.rf
  have hl : lv_has ls 1 [(0, .ref h)] := hl
  refine lv_aload_n hx hb dX1_init_0 rfl (lv_at hl 0 rfl) ?_
  refine W.objInit hx hb hown (hts (Cond.methodLink RX1 3 objectInit) (List.mem_of_getElem? (i := 1) rfl)) (hts (Cond.instanceMethod objectInit) (List.mem_of_getElem? (i := 2) rfl)) (hts _ (List.mem_of_getElem? (i := 3) rfl)) rfl (by rw [hml]; exact hl.1) rfl dX1_init_1 (Nat.le_of_ble_eq_true rfl) (Nat.le_of_ble_eq_true rfl) ?_
  refine W.eq (g2 := F0 m 4 ls []) rfl ?_
  have hP : va_P D vwCl (fl [[ob h 1 [.int s1, .int r1, .int v1, .int e1, .int n1, .long x1, .long y1]]]) s.heap := hP
  have hD : va_D A (fl [[ob h 1 [.int s1, .int r1, .int v1, .int e1, .int n1, .long x1, .long y1]]]) := hD
  exact end_v (bs' := (fun (_ : Unit) => [[ob h 1 [.int s1, .int r1, .int v1, .int e1, .int n1, .long x1, .long y1]]])) () hx hb hr hlocks hP hD hS trivial (Nat.le_of_ble_eq_true rfl) (Nat.le_of_ble_eq_true rfl) dX1_init_4
set_option maxHeartbeats 4000000 in
set_option maxRecDepth 100000 in
theorem c_X1_lose (l : Launch) (D : va_G) (ty : Nat → ClassId) (h : Nat) (s1 r1 v1 e1 n1 : Int32) (x1 y1 : Int64) : CTv l yX1_lose wsX1_lose ({ frames := 0, cells := 0, slots := 0, locals := 0 }) D ty [.ref h] [[ob h 1 [.int s1, .int r1, .int v1, .int e1, .int n1, .long x1, .long y1]]] (fun (_ : Unit) => True) (fun (_ : Unit) => [[ob h 1 [.int 0, .int 0, .int 0, .int e1, .int n1, .long x1, .long y1]]]) := by
  refine CTv_of cX1_lose 1 none (by decide) rfl (Nat.le_of_ble_eq_true rfl) ?_
  intro p e s m args below meth c A hx hb hr hml hown hlocks hin hts hA hX hK hP hD ls hl
  have hown : s.vm.findClass RX1 = some m.cls := hown
  have hS : va_S A s.heap s.heap [] := va_S.rf
  have i_X1 : ∀ z ∈ wsX10, z ∈ wsX1_lose := fun z h => List.mem_cons_of_mem _ (List.mem_append_right _ h)
  have hl : lv_has ls 1 [(0, .ref h)] := hl
  refine lv_aload_n hx hb dX1_lose_0 rfl (lv_at hl 0 rfl) ?_
  refine lv_iconst (v := 0) hx hb dX1_lose_1 (by decide) ?_
  refine va_put (D := D) (ci := 1) (v := .int 0) (ty := .int) (C := RX1) (T := TX1) (N := 7) hx hb hts i_X1 tyX1 tyX1_ok nmX1 hown hK hP hD hS 0 rfl rfl 0 (by decide) (hts (Cond.fieldLink RX1 28 "BrownClock$Crystal" "seconds" "I") (List.mem_of_getElem? (i := 1) rfl)) (fun _ h9 => h9) rfl (by decide +kernel) rfl rfl (Nat.le_of_ble_eq_true rfl) dX1_lose_2 (fun H locs hP hD hS => ?_)
  have hP : va_P D vwCl (fl [[ob h 1 [.int 0, .int r1, .int v1, .int e1, .int n1, .long x1, .long y1]]]) H := hP
  have hD : va_D A (fl [[ob h 1 [.int 0, .int r1, .int v1, .int e1, .int n1, .long x1, .long y1]]]) := hD
  refine lv_aload_n hx hb dX1_lose_5 rfl (lv_at hl 0 rfl) ?_
  refine lv_iconst (v := 0) hx hb dX1_lose_6 (by decide) ?_
  refine va_put (D := D) (ci := 1) (v := .int 0) (ty := .int) (C := RX1) (T := TX1) (N := 7) hx hb hts i_X1 tyX1 tyX1_ok nmX1 hown hK hP hD hS 0 rfl rfl 1 (by decide) (hts (Cond.fieldLink RX1 31 "BrownClock$Crystal" "rest" "I") (List.mem_of_getElem? (i := 2) rfl)) (fun _ h9 => h9) rfl (by decide +kernel) rfl rfl (Nat.le_of_ble_eq_true rfl) dX1_lose_7 (fun H locs hP hD hS => ?_)
  have hP : va_P D vwCl (fl [[ob h 1 [.int 0, .int 0, .int v1, .int e1, .int n1, .long x1, .long y1]]]) H := hP
  have hD : va_D A (fl [[ob h 1 [.int 0, .int 0, .int v1, .int e1, .int n1, .long x1, .long y1]]]) := hD
  refine lv_aload_n hx hb dX1_lose_10 rfl (lv_at hl 0 rfl) ?_
  refine lv_iconst (v := 0) hx hb dX1_lose_11 (by decide) ?_
  refine va_put (D := D) (ci := 1) (v := .int 0) (ty := .boolean) (C := RX1) (T := TX1) (N := 7) hx hb hts i_X1 tyX1 tyX1_ok nmX1 hown hK hP hD hS 0 rfl rfl 2 (by decide) (hts (Cond.fieldLink RX1 34 "BrownClock$Crystal" "valid" "Z") (List.mem_of_getElem? (i := 3) rfl)) (fun _ h9 => h9) rfl (by decide +kernel) rfl rfl (Nat.le_of_ble_eq_true rfl) dX1_lose_12 (fun H locs hP hD hS => ?_)
  have hP : va_P D vwCl (fl [[ob h 1 [.int 0, .int 0, .int 0, .int e1, .int n1, .long x1, .long y1]]]) H := hP
  have hD : va_D A (fl [[ob h 1 [.int 0, .int 0, .int 0, .int e1, .int n1, .long x1, .long y1]]]) := hD
  have hP : va_P D vwCl (fl [[ob h 1 [.int 0, .int 0, .int 0, .int e1, .int n1, .long x1, .long y1]]]) H := hP
  have hD : va_D A (fl [[ob h 1 [.int 0, .int 0, .int 0, .int e1, .int n1, .long x1, .long y1]]]) := hD
  exact end_v (bs' := (fun (_ : Unit) => [[ob h 1 [.int 0, .int 0, .int 0, .int e1, .int n1, .long x1, .long y1]]])) () hx hb hr hlocks hP hD hS trivial (Nat.le_of_ble_eq_true rfl) (Nat.le_of_ble_eq_true rfl) dX1_lose_15
set_option maxHeartbeats 4000000 in
set_option maxRecDepth 100000 in
theorem c_X1_reset (l : Launch) (D : va_G) (ty : Nat → ClassId) (h : Nat) (s1 r1 v1 e1 n1 : Int32) (x1 y1 : Int64) : CTv l yX1_reset wsX1_reset ({ frames := 1, cells := 0, slots := 0, locals := 20 }) D ty [.ref h] [[ob h 1 [.int s1, .int r1, .int v1, .int e1, .int n1, .long x1, .long y1]]] (fun (_ : Unit) => True) (fun (_ : Unit) => [[ob h 1 [.int 0, .int 0, .int 0, .int 100, .int 0, .long 0, .long 0]]]) := by
  refine CTv_of cX1_reset 1 none (by decide) rfl (Nat.le_of_ble_eq_true rfl) ?_
  intro p e s m args below meth c A hx hb hr hml hown hlocks hin hts hA hX hK hP hD ls hl
  have hown : s.vm.findClass RX1 = some m.cls := hown
  have hS : va_S A s.heap s.heap [] := va_S.rf
  have i_X1 : ∀ z ∈ wsX10, z ∈ wsX1_reset := fun z h => List.mem_cons_of_mem _ (List.mem_append_right _ h)
  have hl : lv_has ls 1 [(0, .ref h)] := hl
  refine lv_aload_n hx hb dX1_reset_0 rfl (lv_at hl 0 rfl) ?_
  refine cVv (As := []) (rest := []) ⟨hx, hb, hml, hown, hts⟩ (c_X1_lose l D ty h s1 r1 v1 e1 n1 x1 y1) (cwV 0 hts gX1_reset_X1_lose rfl rfl rfl (by decide +kernel) ⟨Nat.le_of_ble_eq_true rfl, Nat.le_of_ble_eq_true rfl⟩) hK hX hP hD hS hA (pk (bs := [[ob h 1 [.int s1, .int r1, .int v1, .int e1, .int n1, .long x1, .long y1]]]) (bsc := [[ob h 1 [.int s1, .int r1, .int v1, .int e1, .int n1, .long x1, .long y1]]]) (bsr := []) [0] [] 1 rfl (by decide +kernel) rfl rfl) (ci := 1) rfl 0 rfl rfl hl.1 rfl (Nat.le_of_ble_eq_true rfl) dX1_reset_1 ⟨Nat.le_of_ble_eq_true rfl, Nat.le_of_ble_eq_true rfl⟩ (fun u_1 h_3 H locs hP hD hS => ?_)
  have hP : va_P D vwCl (fl [[ob h 1 [.int 0, .int 0, .int 0, .int e1, .int n1, .long x1, .long y1]]]) H := P_perm (po (bs := [[ob h 1 [.int 0, .int 0, .int 0, .int e1, .int n1, .long x1, .long y1]]]) [0] 1 rfl (by decide +kernel) rfl) hP
  have hD : va_D A (fl [[ob h 1 [.int 0, .int 0, .int 0, .int e1, .int n1, .long x1, .long y1]]]) := D_perm (po (bs := [[ob h 1 [.int 0, .int 0, .int 0, .int e1, .int n1, .long x1, .long y1]]]) [0] 1 rfl (by decide +kernel) rfl) hD
  refine lv_aload_n hx hb dX1_reset_4 rfl (lv_at hl 0 rfl) ?_
  refine lv_bipush (v := 100) hx hb dX1_reset_5 (by decide) ?_
  refine va_put (D := D) (ci := 1) (v := .int 100) (ty := .int) (C := RX1) (T := TX1) (N := 7) hx hb hts i_X1 tyX1 tyX1_ok nmX1 hown hK hP hD hS 0 rfl rfl 3 (by decide) (hts (Cond.fieldLink RX1 14 "BrownClock$Crystal" "error" "I") (List.mem_of_getElem? (i := 1) rfl)) (fun _ h9 => h9) rfl (by decide +kernel) rfl rfl (Nat.le_of_ble_eq_true rfl) dX1_reset_7 (fun H locs hP hD hS => ?_)
  have hP : va_P D vwCl (fl [[ob h 1 [.int 0, .int 0, .int 0, .int 100, .int n1, .long x1, .long y1]]]) H := hP
  have hD : va_D A (fl [[ob h 1 [.int 0, .int 0, .int 0, .int 100, .int n1, .long x1, .long y1]]]) := hD
  refine lv_aload_n hx hb dX1_reset_10 rfl (lv_at hl 0 rfl) ?_
  refine lv_iconst (v := 0) hx hb dX1_reset_11 (by decide) ?_
  refine va_put (D := D) (ci := 1) (v := .int 0) (ty := .int) (C := RX1) (T := TX1) (N := 7) hx hb hts i_X1 tyX1 tyX1_ok nmX1 hown hK hP hD hS 0 rfl rfl 4 (by decide) (hts (Cond.fieldLink RX1 18 "BrownClock$Crystal" "correction" "I") (List.mem_of_getElem? (i := 2) rfl)) (fun _ h9 => h9) rfl (by decide +kernel) rfl rfl (Nat.le_of_ble_eq_true rfl) dX1_reset_12 (fun H locs hP hD hS => ?_)
  have hP : va_P D vwCl (fl [[ob h 1 [.int 0, .int 0, .int 0, .int 100, .int 0, .long x1, .long y1]]]) H := hP
  have hD : va_D A (fl [[ob h 1 [.int 0, .int 0, .int 0, .int 100, .int 0, .long x1, .long y1]]]) := hD
  refine lv_aload_n hx hb dX1_reset_15 rfl (lv_at hl 0 rfl) ?_
  refine lv_lconst (v := 0) hx hb dX1_reset_16 (by decide) ?_
  refine va_put (D := D) (ci := 1) (v := .long 0) (ty := .long) (C := RX1) (T := TX1) (N := 7) hx hb hts i_X1 tyX1 tyX1_ok nmX1 hown hK hP hD hS 0 rfl rfl 5 (by decide) (hts (Cond.fieldLink RX1 21 "BrownClock$Crystal" "correctionSum" "J") (List.mem_of_getElem? (i := 3) rfl)) (fun _ h9 => h9) rfl (by decide +kernel) rfl rfl (Nat.le_of_ble_eq_true rfl) dX1_reset_17 (fun H locs hP hD hS => ?_)
  have hP : va_P D vwCl (fl [[ob h 1 [.int 0, .int 0, .int 0, .int 100, .int 0, .long 0, .long y1]]]) H := hP
  have hD : va_D A (fl [[ob h 1 [.int 0, .int 0, .int 0, .int 100, .int 0, .long 0, .long y1]]]) := hD
  refine lv_aload_n hx hb dX1_reset_20 rfl (lv_at hl 0 rfl) ?_
  refine lv_lconst (v := 0) hx hb dX1_reset_21 (by decide) ?_
  refine va_put (D := D) (ci := 1) (v := .long 0) (ty := .long) (C := RX1) (T := TX1) (N := 7) hx hb hts i_X1 tyX1 tyX1_ok nmX1 hown hK hP hD hS 0 rfl rfl 6 (by decide) (hts (Cond.fieldLink RX1 25 "BrownClock$Crystal" "driftSum" "J") (List.mem_of_getElem? (i := 4) rfl)) (fun _ h9 => h9) rfl (by decide +kernel) rfl rfl (Nat.le_of_ble_eq_true rfl) dX1_reset_22 (fun H locs hP hD hS => ?_)
  have hP : va_P D vwCl (fl [[ob h 1 [.int 0, .int 0, .int 0, .int 100, .int 0, .long 0, .long 0]]]) H := hP
  have hD : va_D A (fl [[ob h 1 [.int 0, .int 0, .int 0, .int 100, .int 0, .long 0, .long 0]]]) := hD
  have hP : va_P D vwCl (fl [[ob h 1 [.int 0, .int 0, .int 0, .int 100, .int 0, .long 0, .long 0]]]) H := hP
  have hD : va_D A (fl [[ob h 1 [.int 0, .int 0, .int 0, .int 100, .int 0, .long 0, .long 0]]]) := hD
  exact end_v (bs' := (fun (_ : Unit) => [[ob h 1 [.int 0, .int 0, .int 0, .int 100, .int 0, .long 0, .long 0]]])) () hx hb hr hlocks hP hD hS trivial (Nat.le_of_ble_eq_true rfl) (Nat.le_of_ble_eq_true rfl) dX1_reset_25
set_option maxHeartbeats 4000000 in
set_option maxRecDepth 100000 in
theorem c_X1_setTo (l : Launch) (D : va_G) (ty : Nat → ClassId) (h : Nat) (z s1 r1 v1 e1 n1 : Int32) (x1 y1 : Int64) : CTv l yX1_setTo wsX1_setTo ({ frames := 0, cells := 0, slots := 0, locals := 0 }) D ty [.ref h, .int z] [[ob h 1 [.int s1, .int r1, .int v1, .int e1, .int n1, .long x1, .long y1]]] (fun (_ : Unit) => True) (fun (_ : Unit) => [[ob h 1 [.int z, .int 0, .int 1, .int e1, .int n1, .long x1, .long y1]]]) := by
  refine CTv_of cX1_setTo 2 none (by decide) rfl (Nat.le_of_ble_eq_true rfl) ?_
  intro p e s m args below meth c A hx hb hr hml hown hlocks hin hts hA hX hK hP hD ls hl
  have hown : s.vm.findClass RX1 = some m.cls := hown
  have hS : va_S A s.heap s.heap [] := va_S.rf
  have i_X1 : ∀ z ∈ wsX10, z ∈ wsX1_setTo := fun z h => List.mem_cons_of_mem _ (List.mem_append_right _ h)
  have hl : lv_has ls 2 [(0, .ref h), (1, .int z)] := hl
  refine lv_aload_n hx hb dX1_setTo_0 rfl (lv_at hl 0 rfl) ?_
  refine lv_iload_n hx hb dX1_setTo_1 rfl (lv_at hl 1 rfl) ?_
  refine va_put (D := D) (ci := 1) (v := .int z) (ty := .int) (C := RX1) (T := TX1) (N := 7) hx hb hts i_X1 tyX1 tyX1_ok nmX1 hown hK hP hD hS 0 rfl rfl 0 (by decide) (hts (Cond.fieldLink RX1 28 "BrownClock$Crystal" "seconds" "I") (List.mem_of_getElem? (i := 1) rfl)) (fun _ h9 => h9) rfl (by decide +kernel) rfl rfl (Nat.le_of_ble_eq_true rfl) dX1_setTo_2 (fun H locs hP hD hS => ?_)
  have hP : va_P D vwCl (fl [[ob h 1 [.int z, .int r1, .int v1, .int e1, .int n1, .long x1, .long y1]]]) H := hP
  have hD : va_D A (fl [[ob h 1 [.int z, .int r1, .int v1, .int e1, .int n1, .long x1, .long y1]]]) := hD
  refine lv_aload_n hx hb dX1_setTo_5 rfl (lv_at hl 0 rfl) ?_
  refine lv_iconst (v := 0) hx hb dX1_setTo_6 (by decide) ?_
  refine va_put (D := D) (ci := 1) (v := .int 0) (ty := .int) (C := RX1) (T := TX1) (N := 7) hx hb hts i_X1 tyX1 tyX1_ok nmX1 hown hK hP hD hS 0 rfl rfl 1 (by decide) (hts (Cond.fieldLink RX1 31 "BrownClock$Crystal" "rest" "I") (List.mem_of_getElem? (i := 2) rfl)) (fun _ h9 => h9) rfl (by decide +kernel) rfl rfl (Nat.le_of_ble_eq_true rfl) dX1_setTo_7 (fun H locs hP hD hS => ?_)
  have hP : va_P D vwCl (fl [[ob h 1 [.int z, .int 0, .int v1, .int e1, .int n1, .long x1, .long y1]]]) H := hP
  have hD : va_D A (fl [[ob h 1 [.int z, .int 0, .int v1, .int e1, .int n1, .long x1, .long y1]]]) := hD
  refine lv_aload_n hx hb dX1_setTo_10 rfl (lv_at hl 0 rfl) ?_
  refine lv_iconst (v := 1) hx hb dX1_setTo_11 (by decide) ?_
  refine va_put (D := D) (ci := 1) (v := .int 1) (ty := .boolean) (C := RX1) (T := TX1) (N := 7) hx hb hts i_X1 tyX1 tyX1_ok nmX1 hown hK hP hD hS 0 rfl rfl 2 (by decide) (hts (Cond.fieldLink RX1 34 "BrownClock$Crystal" "valid" "Z") (List.mem_of_getElem? (i := 3) rfl)) (fun _ h9 => h9) rfl (by decide +kernel) rfl rfl (Nat.le_of_ble_eq_true rfl) dX1_setTo_12 (fun H locs hP hD hS => ?_)
  have hP : va_P D vwCl (fl [[ob h 1 [.int z, .int 0, .int 1, .int e1, .int n1, .long x1, .long y1]]]) H := hP
  have hD : va_D A (fl [[ob h 1 [.int z, .int 0, .int 1, .int e1, .int n1, .long x1, .long y1]]]) := hD
  have hP : va_P D vwCl (fl [[ob h 1 [.int z, .int 0, .int 1, .int e1, .int n1, .long x1, .long y1]]]) H := hP
  have hD : va_D A (fl [[ob h 1 [.int z, .int 0, .int 1, .int e1, .int n1, .long x1, .long y1]]]) := hD
  exact end_v (bs' := (fun (_ : Unit) => [[ob h 1 [.int z, .int 0, .int 1, .int e1, .int n1, .long x1, .long y1]]])) () hx hb hr hlocks hP hD hS trivial (Nat.le_of_ble_eq_true rfl) (Nat.le_of_ble_eq_true rfl) dX1_setTo_15
set_option maxHeartbeats 4000000 in
set_option maxRecDepth 100000 in
theorem c_X1_copyFrom (l : Launch) (D : va_G) (ty : Nat → ClassId) (h q : Nat) (s1 r1 v1 e1 n1 s2 r2 v2 e2 n2 : Int32) (x1 y1 x2 y2 : Int64) : CTv l yX1_copyFrom wsX1_copyFrom ({ frames := 0, cells := 0, slots := 0, locals := 0 }) D ty [.ref h, .ref q] [[ob h 1 [.int s1, .int r1, .int v1, .int e1, .int n1, .long x1, .long y1]], [ob q 1 [.int s2, .int r2, .int (bz v2), .int e2, .int n2, .long x2, .long y2]]] (fun (_ : Unit) => True) (fun (_ : Unit) => [[ob h 1 [.int s2, .int r2, .int (bz v2), .int e2, .int n2, .long x2, .long y2]], [ob q 1 [.int s2, .int r2, .int (bz v2), .int e2, .int n2, .long x2, .long y2]]]) := by
  refine CTv_of cX1_copyFrom 2 none (by decide) rfl (Nat.le_of_ble_eq_true rfl) ?_
  intro p e s m args below meth c A hx hb hr hml hown hlocks hin hts hA hX hK hP hD ls hl
  have hown : s.vm.findClass RX1 = some m.cls := hown
  have hS : va_S A s.heap s.heap [] := va_S.rf
  have i_X1 : ∀ z ∈ wsX10, z ∈ wsX1_copyFrom := fun z h => List.mem_cons_of_mem _ (List.mem_append_right _ h)
  have hl : lv_has ls 2 [(0, .ref h), (1, .ref q)] := hl
  refine lv_aload_n hx hb dX1_copyFrom_0 rfl (lv_at hl 0 rfl) ?_
  refine lv_aload_n hx hb dX1_copyFrom_1 rfl (lv_at hl 1 rfl) ?_
  refine va_get (D := D) (ci := 1) (v := .int s2) (C := RX1) (T := TX1) (N := 7) hx hb hts i_X1 hown hK hP 1 rfl rfl 0 (by decide) (hts (Cond.fieldLink RX1 28 "BrownClock$Crystal" "seconds" "I") (List.mem_of_getElem? (i := 1) rfl)) (fun _ h9 => h9) rfl dX1_copyFrom_2 ?_
  refine va_put (D := D) (ci := 1) (v := .int s2) (ty := .int) (C := RX1) (T := TX1) (N := 7) hx hb hts i_X1 tyX1 tyX1_ok nmX1 hown hK hP hD hS 0 rfl rfl 0 (by decide) (hts (Cond.fieldLink RX1 28 "BrownClock$Crystal" "seconds" "I") (List.mem_of_getElem? (i := 1) rfl)) (fun _ h9 => h9) rfl (by decide +kernel) rfl rfl (Nat.le_of_ble_eq_true rfl) dX1_copyFrom_5 (fun H locs hP hD hS => ?_)
  have hP : va_P D vwCl (fl [[ob h 1 [.int s2, .int r1, .int v1, .int e1, .int n1, .long x1, .long y1]], [ob q 1 [.int s2, .int r2, .int (bz v2), .int e2, .int n2, .long x2, .long y2]]]) H := hP
  have hD : va_D A (fl [[ob h 1 [.int s2, .int r1, .int v1, .int e1, .int n1, .long x1, .long y1]], [ob q 1 [.int s2, .int r2, .int (bz v2), .int e2, .int n2, .long x2, .long y2]]]) := hD
  refine lv_aload_n hx hb dX1_copyFrom_8 rfl (lv_at hl 0 rfl) ?_
  refine lv_aload_n hx hb dX1_copyFrom_9 rfl (lv_at hl 1 rfl) ?_
  refine va_get (D := D) (ci := 1) (v := .int r2) (C := RX1) (T := TX1) (N := 7) hx hb hts i_X1 hown hK hP 1 rfl rfl 1 (by decide) (hts (Cond.fieldLink RX1 31 "BrownClock$Crystal" "rest" "I") (List.mem_of_getElem? (i := 2) rfl)) (fun _ h9 => h9) rfl dX1_copyFrom_10 ?_
  refine va_put (D := D) (ci := 1) (v := .int r2) (ty := .int) (C := RX1) (T := TX1) (N := 7) hx hb hts i_X1 tyX1 tyX1_ok nmX1 hown hK hP hD hS 0 rfl rfl 1 (by decide) (hts (Cond.fieldLink RX1 31 "BrownClock$Crystal" "rest" "I") (List.mem_of_getElem? (i := 2) rfl)) (fun _ h9 => h9) rfl (by decide +kernel) rfl rfl (Nat.le_of_ble_eq_true rfl) dX1_copyFrom_13 (fun H locs hP hD hS => ?_)
  have hP : va_P D vwCl (fl [[ob h 1 [.int s2, .int r2, .int v1, .int e1, .int n1, .long x1, .long y1]], [ob q 1 [.int s2, .int r2, .int (bz v2), .int e2, .int n2, .long x2, .long y2]]]) H := hP
  have hD : va_D A (fl [[ob h 1 [.int s2, .int r2, .int v1, .int e1, .int n1, .long x1, .long y1]], [ob q 1 [.int s2, .int r2, .int (bz v2), .int e2, .int n2, .long x2, .long y2]]]) := hD
  refine lv_aload_n hx hb dX1_copyFrom_16 rfl (lv_at hl 0 rfl) ?_
  refine lv_aload_n hx hb dX1_copyFrom_17 rfl (lv_at hl 1 rfl) ?_
  refine va_get (D := D) (ci := 1) (v := .int (bz v2)) (C := RX1) (T := TX1) (N := 7) hx hb hts i_X1 hown hK hP 1 rfl rfl 2 (by decide) (hts (Cond.fieldLink RX1 34 "BrownClock$Crystal" "valid" "Z") (List.mem_of_getElem? (i := 3) rfl)) (fun _ h9 => h9) rfl dX1_copyFrom_18 ?_
  refine va_put (D := D) (ci := 1) (v := .int (bz v2)) (ty := .boolean) (C := RX1) (T := TX1) (N := 7) hx hb hts i_X1 tyX1 tyX1_ok nmX1 hown hK hP hD hS 0 rfl rfl 2 (by decide) (hts (Cond.fieldLink RX1 34 "BrownClock$Crystal" "valid" "Z") (List.mem_of_getElem? (i := 3) rfl)) (fun _ h9 => h9) rfl (by decide +kernel) (bz_nar _) (bz_fit _) (Nat.le_of_ble_eq_true rfl) dX1_copyFrom_21 (fun H locs hP hD hS => ?_)
  have hP : va_P D vwCl (fl [[ob h 1 [.int s2, .int r2, .int (bz v2), .int e1, .int n1, .long x1, .long y1]], [ob q 1 [.int s2, .int r2, .int (bz v2), .int e2, .int n2, .long x2, .long y2]]]) H := hP
  have hD : va_D A (fl [[ob h 1 [.int s2, .int r2, .int (bz v2), .int e1, .int n1, .long x1, .long y1]], [ob q 1 [.int s2, .int r2, .int (bz v2), .int e2, .int n2, .long x2, .long y2]]]) := hD
  refine lv_aload_n hx hb dX1_copyFrom_24 rfl (lv_at hl 0 rfl) ?_
  refine lv_aload_n hx hb dX1_copyFrom_25 rfl (lv_at hl 1 rfl) ?_
  refine va_get (D := D) (ci := 1) (v := .int e2) (C := RX1) (T := TX1) (N := 7) hx hb hts i_X1 hown hK hP 1 rfl rfl 3 (by decide) (hts (Cond.fieldLink RX1 14 "BrownClock$Crystal" "error" "I") (List.mem_of_getElem? (i := 4) rfl)) (fun _ h9 => h9) rfl dX1_copyFrom_26 ?_
  refine va_put (D := D) (ci := 1) (v := .int e2) (ty := .int) (C := RX1) (T := TX1) (N := 7) hx hb hts i_X1 tyX1 tyX1_ok nmX1 hown hK hP hD hS 0 rfl rfl 3 (by decide) (hts (Cond.fieldLink RX1 14 "BrownClock$Crystal" "error" "I") (List.mem_of_getElem? (i := 4) rfl)) (fun _ h9 => h9) rfl (by decide +kernel) rfl rfl (Nat.le_of_ble_eq_true rfl) dX1_copyFrom_29 (fun H locs hP hD hS => ?_)
  have hP : va_P D vwCl (fl [[ob h 1 [.int s2, .int r2, .int (bz v2), .int e2, .int n1, .long x1, .long y1]], [ob q 1 [.int s2, .int r2, .int (bz v2), .int e2, .int n2, .long x2, .long y2]]]) H := hP
  have hD : va_D A (fl [[ob h 1 [.int s2, .int r2, .int (bz v2), .int e2, .int n1, .long x1, .long y1]], [ob q 1 [.int s2, .int r2, .int (bz v2), .int e2, .int n2, .long x2, .long y2]]]) := hD
  refine lv_aload_n hx hb dX1_copyFrom_32 rfl (lv_at hl 0 rfl) ?_
  refine lv_aload_n hx hb dX1_copyFrom_33 rfl (lv_at hl 1 rfl) ?_
  refine va_get (D := D) (ci := 1) (v := .int n2) (C := RX1) (T := TX1) (N := 7) hx hb hts i_X1 hown hK hP 1 rfl rfl 4 (by decide) (hts (Cond.fieldLink RX1 18 "BrownClock$Crystal" "correction" "I") (List.mem_of_getElem? (i := 5) rfl)) (fun _ h9 => h9) rfl dX1_copyFrom_34 ?_
  refine va_put (D := D) (ci := 1) (v := .int n2) (ty := .int) (C := RX1) (T := TX1) (N := 7) hx hb hts i_X1 tyX1 tyX1_ok nmX1 hown hK hP hD hS 0 rfl rfl 4 (by decide) (hts (Cond.fieldLink RX1 18 "BrownClock$Crystal" "correction" "I") (List.mem_of_getElem? (i := 5) rfl)) (fun _ h9 => h9) rfl (by decide +kernel) rfl rfl (Nat.le_of_ble_eq_true rfl) dX1_copyFrom_37 (fun H locs hP hD hS => ?_)
  have hP : va_P D vwCl (fl [[ob h 1 [.int s2, .int r2, .int (bz v2), .int e2, .int n2, .long x1, .long y1]], [ob q 1 [.int s2, .int r2, .int (bz v2), .int e2, .int n2, .long x2, .long y2]]]) H := hP
  have hD : va_D A (fl [[ob h 1 [.int s2, .int r2, .int (bz v2), .int e2, .int n2, .long x1, .long y1]], [ob q 1 [.int s2, .int r2, .int (bz v2), .int e2, .int n2, .long x2, .long y2]]]) := hD
  refine lv_aload_n hx hb dX1_copyFrom_40 rfl (lv_at hl 0 rfl) ?_
  refine lv_aload_n hx hb dX1_copyFrom_41 rfl (lv_at hl 1 rfl) ?_
  refine va_get (D := D) (ci := 1) (v := .long x2) (C := RX1) (T := TX1) (N := 7) hx hb hts i_X1 hown hK hP 1 rfl rfl 5 (by decide) (hts (Cond.fieldLink RX1 21 "BrownClock$Crystal" "correctionSum" "J") (List.mem_of_getElem? (i := 6) rfl)) (fun _ h9 => h9) rfl dX1_copyFrom_42 ?_
  refine va_put (D := D) (ci := 1) (v := .long x2) (ty := .long) (C := RX1) (T := TX1) (N := 7) hx hb hts i_X1 tyX1 tyX1_ok nmX1 hown hK hP hD hS 0 rfl rfl 5 (by decide) (hts (Cond.fieldLink RX1 21 "BrownClock$Crystal" "correctionSum" "J") (List.mem_of_getElem? (i := 6) rfl)) (fun _ h9 => h9) rfl (by decide +kernel) rfl rfl (Nat.le_of_ble_eq_true rfl) dX1_copyFrom_45 (fun H locs hP hD hS => ?_)
  have hP : va_P D vwCl (fl [[ob h 1 [.int s2, .int r2, .int (bz v2), .int e2, .int n2, .long x2, .long y1]], [ob q 1 [.int s2, .int r2, .int (bz v2), .int e2, .int n2, .long x2, .long y2]]]) H := hP
  have hD : va_D A (fl [[ob h 1 [.int s2, .int r2, .int (bz v2), .int e2, .int n2, .long x2, .long y1]], [ob q 1 [.int s2, .int r2, .int (bz v2), .int e2, .int n2, .long x2, .long y2]]]) := hD
  refine lv_aload_n hx hb dX1_copyFrom_48 rfl (lv_at hl 0 rfl) ?_
  refine lv_aload_n hx hb dX1_copyFrom_49 rfl (lv_at hl 1 rfl) ?_
  refine va_get (D := D) (ci := 1) (v := .long y2) (C := RX1) (T := TX1) (N := 7) hx hb hts i_X1 hown hK hP 1 rfl rfl 6 (by decide) (hts (Cond.fieldLink RX1 25 "BrownClock$Crystal" "driftSum" "J") (List.mem_of_getElem? (i := 7) rfl)) (fun _ h9 => h9) rfl dX1_copyFrom_50 ?_
  refine va_put (D := D) (ci := 1) (v := .long y2) (ty := .long) (C := RX1) (T := TX1) (N := 7) hx hb hts i_X1 tyX1 tyX1_ok nmX1 hown hK hP hD hS 0 rfl rfl 6 (by decide) (hts (Cond.fieldLink RX1 25 "BrownClock$Crystal" "driftSum" "J") (List.mem_of_getElem? (i := 7) rfl)) (fun _ h9 => h9) rfl (by decide +kernel) rfl rfl (Nat.le_of_ble_eq_true rfl) dX1_copyFrom_53 (fun H locs hP hD hS => ?_)
  have hP : va_P D vwCl (fl [[ob h 1 [.int s2, .int r2, .int (bz v2), .int e2, .int n2, .long x2, .long y2]], [ob q 1 [.int s2, .int r2, .int (bz v2), .int e2, .int n2, .long x2, .long y2]]]) H := hP
  have hD : va_D A (fl [[ob h 1 [.int s2, .int r2, .int (bz v2), .int e2, .int n2, .long x2, .long y2]], [ob q 1 [.int s2, .int r2, .int (bz v2), .int e2, .int n2, .long x2, .long y2]]]) := hD
  have hP : va_P D vwCl (fl [[ob h 1 [.int s2, .int r2, .int (bz v2), .int e2, .int n2, .long x2, .long y2]], [ob q 1 [.int s2, .int r2, .int (bz v2), .int e2, .int n2, .long x2, .long y2]]]) H := hP
  have hD : va_D A (fl [[ob h 1 [.int s2, .int r2, .int (bz v2), .int e2, .int n2, .long x2, .long y2]], [ob q 1 [.int s2, .int r2, .int (bz v2), .int e2, .int n2, .long x2, .long y2]]]) := hD
  exact end_v (bs' := (fun (_ : Unit) => [[ob h 1 [.int s2, .int r2, .int (bz v2), .int e2, .int n2, .long x2, .long y2]], [ob q 1 [.int s2, .int r2, .int (bz v2), .int e2, .int n2, .long x2, .long y2]]])) () hx hb hr hlocks hP hD hS trivial (Nat.le_of_ble_eq_true rfl) (Nat.le_of_ble_eq_true rfl) dX1_copyFrom_56
set_option maxHeartbeats 4000000 in
set_option maxRecDepth 100000 in
theorem c_X1_minute (l : Launch) (D : va_G) (ty : Nat → ClassId) (h : Nat) (s1 r1 v1 e1 n1 : Int32) (x1 y1 : Int64) : CTi l yX1_minute wsX1_minute ({ frames := 0, cells := 0, slots := 0, locals := 0 }) D ty [.ref h] [[ob h 1 [.int s1, .int r1, .int v1, .int e1, .int n1, .long x1, .long y1]]] (fun (RET : Int32) (_ : Unit) => RET = (s1 / 60)) (fun (_ : Unit) => [[ob h 1 [.int s1, .int r1, .int v1, .int e1, .int n1, .long x1, .long y1]]]) := by
  refine CTi_of cX1_minute 1 (some .int) (by decide) rfl (Nat.le_of_ble_eq_true rfl) ?_
  intro p e s m args below meth c A hx hb hr hml hown hlocks hin hts hA hX hK hP hD ls hl
  have hown : s.vm.findClass RX1 = some m.cls := hown
  have hS : va_S A s.heap s.heap [] := va_S.rf
  have i_X1 : ∀ z ∈ wsX10, z ∈ wsX1_minute := fun z h => List.mem_cons_of_mem _ (List.mem_append_right _ h)
  have hl : lv_has ls 1 [(0, .ref h)] := hl
  refine lv_aload_n hx hb dX1_minute_0 rfl (lv_at hl 0 rfl) ?_
  refine va_get (D := D) (ci := 1) (v := .int s1) (C := RX1) (T := TX1) (N := 7) hx hb hts i_X1 hown hK hP 0 rfl rfl 0 (by decide) (hts (Cond.fieldLink RX1 28 "BrownClock$Crystal" "seconds" "I") (List.mem_of_getElem? (i := 1) rfl)) (fun _ h9 => h9) rfl dX1_minute_1 ?_
  refine lv_bipush (v := 60) hx hb dX1_minute_4 (by decide) ?_
  refine k_idiv (v := (s1 / 60)) hx hb dX1_minute_6 (by decide) rfl ?_
  have hP : va_P D vwCl (fl [[ob h 1 [.int s1, .int r1, .int v1, .int e1, .int n1, .long x1, .long y1]]]) s.heap := hP
  have hD : va_D A (fl [[ob h 1 [.int s1, .int r1, .int v1, .int e1, .int n1, .long x1, .long y1]]]) := hD
  exact end_i (bs' := (fun (_ : Unit) => [[ob h 1 [.int s1, .int r1, .int v1, .int e1, .int n1, .long x1, .long y1]]])) () hx hb hr hlocks hP hD hS (by first | rfl | decide | simp []) (Nat.le_of_ble_eq_true rfl) (Nat.le_of_ble_eq_true rfl) dX1_minute_7
set_option maxHeartbeats 4000000 in
set_option maxRecDepth 100000 in
theorem c_X1_goOn (l : Launch) (D : va_G) (ty : Nat → ClassId) (h : Nat) (s1 r1 v1 e1 n1 : Int32) (x1 y1 : Int64) : CTv l yX1_goOn wsX1_goOn ({ frames := 0, cells := 0, slots := 0, locals := 0 }) D ty [.ref h] [[ob h 1 [.int s1, .int r1, .int v1, .int e1, .int n1, .long x1, .long y1]]] (fun (_ : Unit) => True) (fun (_ : Unit) => [[ob h 1 [.int (s1 + 60 + (r1 + (e1 - n1) * 60) / 1000000), .int ((r1 + (e1 - n1) * 60) - (r1 + (e1 - n1) * 60) / 1000000 * 1000000), .int v1, .int e1, .int n1, .long (x1 + Int32.toInt64 (n1 * 60)), .long (y1 + Int32.toInt64 ((e1 - n1) * 60))]]]) := by
  refine CTv_of cX1_goOn 3 none (by decide) rfl (Nat.le_of_ble_eq_true rfl) ?_
  intro p e s m args below meth c A hx hb hr hml hown hlocks hin hts hA hX hK hP hD ls hl
  have hown : s.vm.findClass RX1 = some m.cls := hown
  have hS : va_S A s.heap s.heap [] := va_S.rf
  have i_X1 : ∀ z ∈ wsX10, z ∈ wsX1_goOn := fun z h => List.mem_cons_of_mem _ (List.mem_append_right _ h)
  have hl : lv_has ls 3 [(0, .ref h)] := hl
  refine lv_aload_n hx hb dX1_goOn_0 rfl (lv_at hl 0 rfl) ?_
  refine va_get (D := D) (ci := 1) (v := .int e1) (C := RX1) (T := TX1) (N := 7) hx hb hts i_X1 hown hK hP 0 rfl rfl 3 (by decide) (hts (Cond.fieldLink RX1 14 "BrownClock$Crystal" "error" "I") (List.mem_of_getElem? (i := 1) rfl)) (fun _ h9 => h9) rfl dX1_goOn_1 ?_
  refine lv_aload_n hx hb dX1_goOn_4 rfl (lv_at hl 0 rfl) ?_
  refine va_get (D := D) (ci := 1) (v := .int n1) (C := RX1) (T := TX1) (N := 7) hx hb hts i_X1 hown hK hP 0 rfl rfl 4 (by decide) (hts (Cond.fieldLink RX1 18 "BrownClock$Crystal" "correction" "I") (List.mem_of_getElem? (i := 2) rfl)) (fun _ h9 => h9) rfl dX1_goOn_5 ?_
  refine k_isub (v := (e1 - n1)) hx hb dX1_goOn_8 rfl ?_
  refine lv_bipush (v := 60) hx hb dX1_goOn_9 (by decide) ?_
  refine k_imul (v := ((e1 - n1) * 60)) hx hb dX1_goOn_11 rfl ?_
  refine lv_istore_n (lv' := [(1, .int ((e1 - n1) * 60)), (0, .ref h)]) hx hb dX1_goOn_12 rfl hl (by decide) rfl (fun ls hl => ?_)
  refine lv_aload_n hx hb dX1_goOn_13 rfl (lv_at hl 1 rfl) ?_
  refine lv_dup hx hb dX1_goOn_14 rfl ?_
  refine va_get (D := D) (ci := 1) (v := .int s1) (C := RX1) (T := TX1) (N := 7) hx hb hts i_X1 hown hK hP 0 rfl rfl 0 (by decide) (hts (Cond.fieldLink RX1 28 "BrownClock$Crystal" "seconds" "I") (List.mem_of_getElem? (i := 3) rfl)) (fun _ h9 => h9) rfl dX1_goOn_15 ?_
  refine lv_bipush (v := 60) hx hb dX1_goOn_18 (by decide) ?_
  refine k_iadd (v := (s1 + 60)) hx hb dX1_goOn_20 rfl ?_
  refine va_put (D := D) (ci := 1) (v := .int (s1 + 60)) (ty := .int) (C := RX1) (T := TX1) (N := 7) hx hb hts i_X1 tyX1 tyX1_ok nmX1 hown hK hP hD hS 0 rfl rfl 0 (by decide) (hts (Cond.fieldLink RX1 28 "BrownClock$Crystal" "seconds" "I") (List.mem_of_getElem? (i := 3) rfl)) (fun _ h9 => h9) rfl (by decide +kernel) rfl rfl (Nat.le_of_ble_eq_true rfl) dX1_goOn_21 (fun H locs hP hD hS => ?_)
  have hP : va_P D vwCl (fl [[ob h 1 [.int (s1 + 60), .int r1, .int v1, .int e1, .int n1, .long x1, .long y1]]]) H := hP
  have hD : va_D A (fl [[ob h 1 [.int (s1 + 60), .int r1, .int v1, .int e1, .int n1, .long x1, .long y1]]]) := hD
  refine lv_aload_n hx hb dX1_goOn_24 rfl (lv_at hl 1 rfl) ?_
  refine lv_dup hx hb dX1_goOn_25 rfl ?_
  refine va_get (D := D) (ci := 1) (v := .int r1) (C := RX1) (T := TX1) (N := 7) hx hb hts i_X1 hown hK hP 0 rfl rfl 1 (by decide) (hts (Cond.fieldLink RX1 31 "BrownClock$Crystal" "rest" "I") (List.mem_of_getElem? (i := 4) rfl)) (fun _ h9 => h9) rfl dX1_goOn_26 ?_
  refine lv_iload_n hx hb dX1_goOn_29 rfl (lv_at hl 0 rfl) ?_
  refine k_iadd (v := (r1 + ((e1 - n1) * 60))) hx hb dX1_goOn_30 rfl ?_
  refine va_put (D := D) (ci := 1) (v := .int (r1 + ((e1 - n1) * 60))) (ty := .int) (C := RX1) (T := TX1) (N := 7) hx hb hts i_X1 tyX1 tyX1_ok nmX1 hown hK hP hD hS 0 rfl rfl 1 (by decide) (hts (Cond.fieldLink RX1 31 "BrownClock$Crystal" "rest" "I") (List.mem_of_getElem? (i := 4) rfl)) (fun _ h9 => h9) rfl (by decide +kernel) rfl rfl (Nat.le_of_ble_eq_true rfl) dX1_goOn_31 (fun H locs hP hD hS => ?_)
  have hP : va_P D vwCl (fl [[ob h 1 [.int (s1 + 60), .int (r1 + ((e1 - n1) * 60)), .int v1, .int e1, .int n1, .long x1, .long y1]]]) H := hP
  have hD : va_D A (fl [[ob h 1 [.int (s1 + 60), .int (r1 + ((e1 - n1) * 60)), .int v1, .int e1, .int n1, .long x1, .long y1]]]) := hD
  refine lv_aload_n hx hb dX1_goOn_34 rfl (lv_at hl 1 rfl) ?_
  refine lv_dup hx hb dX1_goOn_35 rfl ?_
  refine va_get (D := D) (ci := 1) (v := .long x1) (C := RX1) (T := TX1) (N := 7) hx hb hts i_X1 hown hK hP 0 rfl rfl 5 (by decide) (hts (Cond.fieldLink RX1 21 "BrownClock$Crystal" "correctionSum" "J") (List.mem_of_getElem? (i := 5) rfl)) (fun _ h9 => h9) rfl dX1_goOn_36 ?_
  refine lv_aload_n hx hb dX1_goOn_39 rfl (lv_at hl 1 rfl) ?_
  refine va_get (D := D) (ci := 1) (v := .int n1) (C := RX1) (T := TX1) (N := 7) hx hb hts i_X1 hown hK hP 0 rfl rfl 4 (by decide) (hts (Cond.fieldLink RX1 18 "BrownClock$Crystal" "correction" "I") (List.mem_of_getElem? (i := 2) rfl)) (fun _ h9 => h9) rfl dX1_goOn_40 ?_
  refine lv_bipush (v := 60) hx hb dX1_goOn_43 (by decide) ?_
  refine k_imul (v := (n1 * 60)) hx hb dX1_goOn_45 rfl ?_
  refine lv_i2l (v := (Int32.toInt64 (n1 * 60))) hx hb dX1_goOn_46 rfl ?_
  refine k_ladd (v := (x1 + (Int32.toInt64 (n1 * 60)))) hx hb dX1_goOn_47 rfl ?_
  refine va_put (D := D) (ci := 1) (v := .long (x1 + (Int32.toInt64 (n1 * 60)))) (ty := .long) (C := RX1) (T := TX1) (N := 7) hx hb hts i_X1 tyX1 tyX1_ok nmX1 hown hK hP hD hS 0 rfl rfl 5 (by decide) (hts (Cond.fieldLink RX1 21 "BrownClock$Crystal" "correctionSum" "J") (List.mem_of_getElem? (i := 5) rfl)) (fun _ h9 => h9) rfl (by decide +kernel) rfl rfl (Nat.le_of_ble_eq_true rfl) dX1_goOn_48 (fun H locs hP hD hS => ?_)
  have hP : va_P D vwCl (fl [[ob h 1 [.int (s1 + 60), .int (r1 + ((e1 - n1) * 60)), .int v1, .int e1, .int n1, .long (x1 + (Int32.toInt64 (n1 * 60))), .long y1]]]) H := hP
  have hD : va_D A (fl [[ob h 1 [.int (s1 + 60), .int (r1 + ((e1 - n1) * 60)), .int v1, .int e1, .int n1, .long (x1 + (Int32.toInt64 (n1 * 60))), .long y1]]]) := hD
  refine lv_aload_n hx hb dX1_goOn_51 rfl (lv_at hl 1 rfl) ?_
  refine lv_dup hx hb dX1_goOn_52 rfl ?_
  refine va_get (D := D) (ci := 1) (v := .long y1) (C := RX1) (T := TX1) (N := 7) hx hb hts i_X1 hown hK hP 0 rfl rfl 6 (by decide) (hts (Cond.fieldLink RX1 25 "BrownClock$Crystal" "driftSum" "J") (List.mem_of_getElem? (i := 6) rfl)) (fun _ h9 => h9) rfl dX1_goOn_53 ?_
  refine lv_iload_n hx hb dX1_goOn_56 rfl (lv_at hl 0 rfl) ?_
  refine lv_i2l (v := (Int32.toInt64 ((e1 - n1) * 60))) hx hb dX1_goOn_57 rfl ?_
  refine k_ladd (v := (y1 + (Int32.toInt64 ((e1 - n1) * 60)))) hx hb dX1_goOn_58 rfl ?_
  refine va_put (D := D) (ci := 1) (v := .long (y1 + (Int32.toInt64 ((e1 - n1) * 60)))) (ty := .long) (C := RX1) (T := TX1) (N := 7) hx hb hts i_X1 tyX1 tyX1_ok nmX1 hown hK hP hD hS 0 rfl rfl 6 (by decide) (hts (Cond.fieldLink RX1 25 "BrownClock$Crystal" "driftSum" "J") (List.mem_of_getElem? (i := 6) rfl)) (fun _ h9 => h9) rfl (by decide +kernel) rfl rfl (Nat.le_of_ble_eq_true rfl) dX1_goOn_59 (fun H locs hP hD hS => ?_)
  have hP : va_P D vwCl (fl [[ob h 1 [.int (s1 + 60), .int (r1 + ((e1 - n1) * 60)), .int v1, .int e1, .int n1, .long (x1 + (Int32.toInt64 (n1 * 60))), .long (y1 + (Int32.toInt64 ((e1 - n1) * 60)))]]]) H := hP
  have hD : va_D A (fl [[ob h 1 [.int (s1 + 60), .int (r1 + ((e1 - n1) * 60)), .int v1, .int e1, .int n1, .long (x1 + (Int32.toInt64 (n1 * 60))), .long (y1 + (Int32.toInt64 ((e1 - n1) * 60)))]]]) := hD
  refine lv_aload_n hx hb dX1_goOn_62 rfl (lv_at hl 1 rfl) ?_
  refine va_get (D := D) (ci := 1) (v := .int (r1 + ((e1 - n1) * 60))) (C := RX1) (T := TX1) (N := 7) hx hb hts i_X1 hown hK hP 0 rfl rfl 1 (by decide) (hts (Cond.fieldLink RX1 31 "BrownClock$Crystal" "rest" "I") (List.mem_of_getElem? (i := 4) rfl)) (fun _ h9 => h9) rfl dX1_goOn_63 ?_
  refine lv_ldc hx hb hown (hts (Cond.constant RX1 38 (1000000)) (List.mem_of_getElem? (i := 7) rfl)) dX1_goOn_66 ?_
  refine k_idiv (v := ((r1 + ((e1 - n1) * 60)) / 1000000)) hx hb dX1_goOn_68 (by decide) rfl ?_
  refine lv_istore_n (lv' := [(2, .int ((r1 + ((e1 - n1) * 60)) / 1000000)), (1, .int ((e1 - n1) * 60)), (0, .ref h)]) hx hb dX1_goOn_69 rfl hl (by decide) rfl (fun ls hl => ?_)
  refine lv_aload_n hx hb dX1_goOn_70 rfl (lv_at hl 2 rfl) ?_
  refine lv_dup hx hb dX1_goOn_71 rfl ?_
  refine va_get (D := D) (ci := 1) (v := .int (s1 + 60)) (C := RX1) (T := TX1) (N := 7) hx hb hts i_X1 hown hK hP 0 rfl rfl 0 (by decide) (hts (Cond.fieldLink RX1 28 "BrownClock$Crystal" "seconds" "I") (List.mem_of_getElem? (i := 3) rfl)) (fun _ h9 => h9) rfl dX1_goOn_72 ?_
  refine lv_iload_n hx hb dX1_goOn_75 rfl (lv_at hl 0 rfl) ?_
  refine k_iadd (v := ((s1 + 60) + ((r1 + ((e1 - n1) * 60)) / 1000000))) hx hb dX1_goOn_76 rfl ?_
  refine va_put (D := D) (ci := 1) (v := .int ((s1 + 60) + ((r1 + ((e1 - n1) * 60)) / 1000000))) (ty := .int) (C := RX1) (T := TX1) (N := 7) hx hb hts i_X1 tyX1 tyX1_ok nmX1 hown hK hP hD hS 0 rfl rfl 0 (by decide) (hts (Cond.fieldLink RX1 28 "BrownClock$Crystal" "seconds" "I") (List.mem_of_getElem? (i := 3) rfl)) (fun _ h9 => h9) rfl (by decide +kernel) rfl rfl (Nat.le_of_ble_eq_true rfl) dX1_goOn_77 (fun H locs hP hD hS => ?_)
  have hP : va_P D vwCl (fl [[ob h 1 [.int ((s1 + 60) + ((r1 + ((e1 - n1) * 60)) / 1000000)), .int (r1 + ((e1 - n1) * 60)), .int v1, .int e1, .int n1, .long (x1 + (Int32.toInt64 (n1 * 60))), .long (y1 + (Int32.toInt64 ((e1 - n1) * 60)))]]]) H := hP
  have hD : va_D A (fl [[ob h 1 [.int ((s1 + 60) + ((r1 + ((e1 - n1) * 60)) / 1000000)), .int (r1 + ((e1 - n1) * 60)), .int v1, .int e1, .int n1, .long (x1 + (Int32.toInt64 (n1 * 60))), .long (y1 + (Int32.toInt64 ((e1 - n1) * 60)))]]]) := hD
  refine lv_aload_n hx hb dX1_goOn_80 rfl (lv_at hl 2 rfl) ?_
  refine lv_dup hx hb dX1_goOn_81 rfl ?_
  refine va_get (D := D) (ci := 1) (v := .int (r1 + ((e1 - n1) * 60))) (C := RX1) (T := TX1) (N := 7) hx hb hts i_X1 hown hK hP 0 rfl rfl 1 (by decide) (hts (Cond.fieldLink RX1 31 "BrownClock$Crystal" "rest" "I") (List.mem_of_getElem? (i := 4) rfl)) (fun _ h9 => h9) rfl dX1_goOn_82 ?_
  refine lv_iload_n hx hb dX1_goOn_85 rfl (lv_at hl 0 rfl) ?_
  refine lv_ldc hx hb hown (hts (Cond.constant RX1 38 (1000000)) (List.mem_of_getElem? (i := 7) rfl)) dX1_goOn_86 ?_
  refine k_imul (v := (((r1 + ((e1 - n1) * 60)) / 1000000) * 1000000)) hx hb dX1_goOn_88 rfl ?_
  refine k_isub (v := ((r1 + ((e1 - n1) * 60)) - (((r1 + ((e1 - n1) * 60)) / 1000000) * 1000000))) hx hb dX1_goOn_89 rfl ?_
  refine va_put (D := D) (ci := 1) (v := .int ((r1 + ((e1 - n1) * 60)) - (((r1 + ((e1 - n1) * 60)) / 1000000) * 1000000))) (ty := .int) (C := RX1) (T := TX1) (N := 7) hx hb hts i_X1 tyX1 tyX1_ok nmX1 hown hK hP hD hS 0 rfl rfl 1 (by decide) (hts (Cond.fieldLink RX1 31 "BrownClock$Crystal" "rest" "I") (List.mem_of_getElem? (i := 4) rfl)) (fun _ h9 => h9) rfl (by decide +kernel) rfl rfl (Nat.le_of_ble_eq_true rfl) dX1_goOn_90 (fun H locs hP hD hS => ?_)
  have hP : va_P D vwCl (fl [[ob h 1 [.int ((s1 + 60) + ((r1 + ((e1 - n1) * 60)) / 1000000)), .int ((r1 + ((e1 - n1) * 60)) - (((r1 + ((e1 - n1) * 60)) / 1000000) * 1000000)), .int v1, .int e1, .int n1, .long (x1 + (Int32.toInt64 (n1 * 60))), .long (y1 + (Int32.toInt64 ((e1 - n1) * 60)))]]]) H := hP
  have hD : va_D A (fl [[ob h 1 [.int ((s1 + 60) + ((r1 + ((e1 - n1) * 60)) / 1000000)), .int ((r1 + ((e1 - n1) * 60)) - (((r1 + ((e1 - n1) * 60)) / 1000000) * 1000000)), .int v1, .int e1, .int n1, .long (x1 + (Int32.toInt64 (n1 * 60))), .long (y1 + (Int32.toInt64 ((e1 - n1) * 60)))]]]) := hD
  have hP : va_P D vwCl (fl [[ob h 1 [.int (s1 + 60 + (r1 + (e1 - n1) * 60) / 1000000), .int ((r1 + (e1 - n1) * 60) - (r1 + (e1 - n1) * 60) / 1000000 * 1000000), .int v1, .int e1, .int n1, .long (x1 + Int32.toInt64 (n1 * 60)), .long (y1 + Int32.toInt64 ((e1 - n1) * 60))]]]) H := hP
  have hD : va_D A (fl [[ob h 1 [.int (s1 + 60 + (r1 + (e1 - n1) * 60) / 1000000), .int ((r1 + (e1 - n1) * 60) - (r1 + (e1 - n1) * 60) / 1000000 * 1000000), .int v1, .int e1, .int n1, .long (x1 + Int32.toInt64 (n1 * 60)), .long (y1 + Int32.toInt64 ((e1 - n1) * 60))]]]) := (D_same2 hD [h] rfl rfl)
  exact end_v (bs' := (fun (_ : Unit) => [[ob h 1 [.int (s1 + 60 + (r1 + (e1 - n1) * 60) / 1000000), .int ((r1 + (e1 - n1) * 60) - (r1 + (e1 - n1) * 60) / 1000000 * 1000000), .int v1, .int e1, .int n1, .long (x1 + Int32.toInt64 (n1 * 60)), .long (y1 + Int32.toInt64 ((e1 - n1) * 60))]]])) () hx hb hr hlocks hP hD hS trivial (Nat.le_of_ble_eq_true rfl) (Nat.le_of_ble_eq_true rfl) dX1_goOn_93
set_option maxHeartbeats 4000000 in
set_option maxRecDepth 100000 in
theorem c_X1_winsWith (l : Launch) (D : va_G) (ty : Nat → ClassId) (h : Nat) (z w s1 r1 v1 e1 n1 : Int32) (x1 y1 : Int64) : CTi l yX1_winsWith wsX1_winsWith ({ frames := 0, cells := 0, slots := 0, locals := 0 }) D ty [.ref h, .int z, .int w] [[ob h 1 [.int s1, .int r1, .int v1, .int e1, .int n1, .long x1, .long y1]]] (fun (RET : Int32) (_ : Unit) => RET = ((r1 + z * (e1 - w) * 60) / 1000000)) (fun (_ : Unit) => [[ob h 1 [.int s1, .int r1, .int v1, .int e1, .int n1, .long x1, .long y1]]]) := by
  refine CTi_of cX1_winsWith 3 (some .int) (by decide) rfl (Nat.le_of_ble_eq_true rfl) ?_
  intro p e s m args below meth c A hx hb hr hml hown hlocks hin hts hA hX hK hP hD ls hl
  have hown : s.vm.findClass RX1 = some m.cls := hown
  have hS : va_S A s.heap s.heap [] := va_S.rf
  have i_X1 : ∀ z ∈ wsX10, z ∈ wsX1_winsWith := fun z h => List.mem_cons_of_mem _ (List.mem_append_right _ h)
  have hl : lv_has ls 3 [(0, .ref h), (1, .int z), (2, .int w)] := hl
  refine lv_aload_n hx hb dX1_winsWith_0 rfl (lv_at hl 0 rfl) ?_
  refine va_get (D := D) (ci := 1) (v := .int r1) (C := RX1) (T := TX1) (N := 7) hx hb hts i_X1 hown hK hP 0 rfl rfl 1 (by decide) (hts (Cond.fieldLink RX1 31 "BrownClock$Crystal" "rest" "I") (List.mem_of_getElem? (i := 1) rfl)) (fun _ h9 => h9) rfl dX1_winsWith_1 ?_
  refine lv_iload_n hx hb dX1_winsWith_4 rfl (lv_at hl 1 rfl) ?_
  refine lv_aload_n hx hb dX1_winsWith_5 rfl (lv_at hl 0 rfl) ?_
  refine va_get (D := D) (ci := 1) (v := .int e1) (C := RX1) (T := TX1) (N := 7) hx hb hts i_X1 hown hK hP 0 rfl rfl 3 (by decide) (hts (Cond.fieldLink RX1 14 "BrownClock$Crystal" "error" "I") (List.mem_of_getElem? (i := 2) rfl)) (fun _ h9 => h9) rfl dX1_winsWith_6 ?_
  refine lv_iload_n hx hb dX1_winsWith_9 rfl (lv_at hl 2 rfl) ?_
  refine k_isub (v := (e1 - w)) hx hb dX1_winsWith_10 rfl ?_
  refine k_imul (v := (z * (e1 - w))) hx hb dX1_winsWith_11 rfl ?_
  refine lv_bipush (v := 60) hx hb dX1_winsWith_12 (by decide) ?_
  refine k_imul (v := ((z * (e1 - w)) * 60)) hx hb dX1_winsWith_14 rfl ?_
  refine k_iadd (v := (r1 + ((z * (e1 - w)) * 60))) hx hb dX1_winsWith_15 rfl ?_
  refine lv_ldc hx hb hown (hts (Cond.constant RX1 38 (1000000)) (List.mem_of_getElem? (i := 3) rfl)) dX1_winsWith_16 ?_
  refine k_idiv (v := ((r1 + ((z * (e1 - w)) * 60)) / 1000000)) hx hb dX1_winsWith_18 (by decide) rfl ?_
  have hP : va_P D vwCl (fl [[ob h 1 [.int s1, .int r1, .int v1, .int e1, .int n1, .long x1, .long y1]]]) s.heap := hP
  have hD : va_D A (fl [[ob h 1 [.int s1, .int r1, .int v1, .int e1, .int n1, .long x1, .long y1]]]) := hD
  exact end_i (bs' := (fun (_ : Unit) => [[ob h 1 [.int s1, .int r1, .int v1, .int e1, .int n1, .long x1, .long y1]]])) () hx hb hr hlocks hP hD hS (by first | rfl | decide | simp []) (Nat.le_of_ble_eq_true rfl) (Nat.le_of_ble_eq_true rfl) dX1_winsWith_19
set_option maxHeartbeats 4000000 in
set_option maxRecDepth 100000 in
theorem c_X6_domain (l : Launch) (D : va_G) (ty : Nat → ClassId) (h q : Nat) (l1 h1 z1 : Int32) : CTi l yX6_domain wsX6_domain ({ frames := 0, cells := 0, slots := 0, locals := 0 }) D ty [.ref h] [[ob h 5 [.ref q, .int l1, .int h1, .int z1]]] (fun (RET : Int32) (_ : Unit) => RET = (domv l1 h1)) (fun (_ : Unit) => [[ob h 5 [.ref q, .int l1, .int h1, .int z1]]]) := by
  refine CTi_of cX6_domain 1 (some .int) (by decide) rfl (Nat.le_of_ble_eq_true rfl) ?_
  intro p e s m args below meth c A hx hb hr hml hown hlocks hin hts hA hX hK hP hD ls hl
  have hown : s.vm.findClass RX6 = some m.cls := hown
  have hS : va_S A s.heap s.heap [] := va_S.rf
  have i_X6 : ∀ z ∈ wsX60, z ∈ wsX6_domain := fun z h => List.mem_cons_of_mem _ (List.mem_append_right _ h)
  have hl : lv_has ls 1 [(0, .ref h)] := hl
  refine lv_aload_n hx hb dX6_domain_0 rfl (lv_at hl 0 rfl) ?_
  refine va_get (D := D) (ci := 5) (v := .int l1) (C := RX6) (T := TX6) (N := 4) hx hb hts i_X6 hown hK hP 0 rfl rfl 1 (by decide) (hts (Cond.fieldLink RX6 15 "BrownClock$Supply" "level" "I") (List.mem_of_getElem? (i := 1) rfl)) (fun _ h9 => h9) rfl dX6_domain_1 ?_
  refine lv_bipush (v := 6) hx hb dX6_domain_4 (by decide) ?_
  refine lv_icmp_lt (tgt := 11) hx hb dX6_domain_6 (by decide) (fun c_1 => ?_) (fun c_1 => ?_)
  · skip
    refine lv_aload_n hx hb dX6_domain_11 rfl (lv_at hl 0 rfl) ?_
    refine va_get (D := D) (ci := 5) (v := .int h1) (C := RX6) (T := TX6) (N := 4) hx hb hts i_X6 hown hK hP 0 rfl rfl 2 (by decide) (hts (Cond.fieldLink RX6 19 "BrownClock$Supply" "charge" "I") (List.mem_of_getElem? (i := 2) rfl)) (fun _ h9 => h9) rfl dX6_domain_12 ?_
    refine lv_if_ne (tgt := 20) hx hb dX6_domain_15 (by decide) (fun c_2 => ?_) (fun c_2 => ?_)
    · skip
      refine lv_aload_n hx hb dX6_domain_20 rfl (lv_at hl 0 rfl) ?_
      refine va_get (D := D) (ci := 5) (v := .int l1) (C := RX6) (T := TX6) (N := 4) hx hb hts i_X6 hown hK hP 0 rfl rfl 1 (by decide) (hts (Cond.fieldLink RX6 15 "BrownClock$Supply" "level" "I") (List.mem_of_getElem? (i := 1) rfl)) (fun _ h9 => h9) rfl dX6_domain_21 ?_
      refine lv_iconst (v := 3) hx hb dX6_domain_24 (by decide) ?_
      refine lv_icmp_lt (tgt := 32) hx hb dX6_domain_25 (by decide) (fun c_3 => ?_) (fun c_3 => ?_)
      · skip
        refine lv_iconst (v := 2) hx hb dX6_domain_32 (by decide) ?_
        have hP : va_P D vwCl (fl [[ob h 5 [.ref q, .int l1, .int h1, .int z1]]]) s.heap := hP
        have hD : va_D A (fl [[ob h 5 [.ref q, .int l1, .int h1, .int z1]]]) := hD
        exact end_i (bs' := (fun (_ : Unit) => [[ob h 5 [.ref q, .int l1, .int h1, .int z1]]])) () hx hb hr hlocks hP hD hS (by first | rfl | decide | simp [domv, c_1, c_2, c_3]) (Nat.le_of_ble_eq_true rfl) (Nat.le_of_ble_eq_true rfl) dX6_domain_33
      · skip
        refine lv_iconst (v := 1) hx hb dX6_domain_28 (by decide) ?_
        refine lv_goto (tgt := 33) hx hb dX6_domain_29 (by decide) ?_
        have hP : va_P D vwCl (fl [[ob h 5 [.ref q, .int l1, .int h1, .int z1]]]) s.heap := hP
        have hD : va_D A (fl [[ob h 5 [.ref q, .int l1, .int h1, .int z1]]]) := hD
        exact end_i (bs' := (fun (_ : Unit) => [[ob h 5 [.ref q, .int l1, .int h1, .int z1]]])) () hx hb hr hlocks hP hD hS (by first | rfl | decide | simp [domv, c_1, c_2, c_3]) (Nat.le_of_ble_eq_true rfl) (Nat.le_of_ble_eq_true rfl) dX6_domain_33
    · skip
      refine lv_iconst (v := 3) hx hb dX6_domain_18 (by decide) ?_
      have hP : va_P D vwCl (fl [[ob h 5 [.ref q, .int l1, .int h1, .int z1]]]) s.heap := hP
      have hD : va_D A (fl [[ob h 5 [.ref q, .int l1, .int h1, .int z1]]]) := hD
      exact end_i (bs' := (fun (_ : Unit) => [[ob h 5 [.ref q, .int l1, .int h1, .int z1]]])) () hx hb hr hlocks hP hD hS (by first | rfl | decide | simp [domv, c_1, c_2]) (Nat.le_of_ble_eq_true rfl) (Nat.le_of_ble_eq_true rfl) dX6_domain_19
  · skip
    refine lv_iconst (v := 0) hx hb dX6_domain_9 (by decide) ?_
    have hP : va_P D vwCl (fl [[ob h 5 [.ref q, .int l1, .int h1, .int z1]]]) s.heap := hP
    have hD : va_D A (fl [[ob h 5 [.ref q, .int l1, .int h1, .int z1]]]) := hD
    exact end_i (bs' := (fun (_ : Unit) => [[ob h 5 [.ref q, .int l1, .int h1, .int z1]]])) () hx hb hr hlocks hP hD hS (by first | rfl | decide | simp [domv, c_1]) (Nat.le_of_ble_eq_true rfl) (Nat.le_of_ble_eq_true rfl) dX6_domain_10
set_option maxHeartbeats 4000000 in
set_option maxRecDepth 100000 in
theorem c_X6_minutesLeft (l : Launch) (D : va_G) (ty : Nat → ClassId) (h q : Nat) (l1 h1 z1 : Int32) : CTi l yX6_minutesLeft wsX6_minutesLeft ({ frames := 1, cells := 0, slots := 0, locals := 20 }) D ty [.ref h] [[ob h 5 [.ref q, .int l1, .int h1, .int z1]]] (fun (RET : Int32) (_ : Unit) => RET = (if domv l1 h1 = 0 then -99999999 else h1)) (fun (_ : Unit) => [[ob h 5 [.ref q, .int l1, .int h1, .int z1]]]) := by
  refine CTi_of cX6_minutesLeft 1 (some .int) (by decide) rfl (Nat.le_of_ble_eq_true rfl) ?_
  intro p e s m args below meth c A hx hb hr hml hown hlocks hin hts hA hX hK hP hD ls hl
  have hown : s.vm.findClass RX6 = some m.cls := hown
  have hS : va_S A s.heap s.heap [] := va_S.rf
  have i_X6 : ∀ z ∈ wsX60, z ∈ wsX6_minutesLeft := fun z h => List.mem_cons_of_mem _ (List.mem_append_right _ h)
  have hl : lv_has ls 1 [(0, .ref h)] := hl
  refine lv_aload_n hx hb dX6_minutesLeft_0 rfl (lv_at hl 0 rfl) ?_
  refine cVi (As := []) (rest := []) ⟨hx, hb, hml, hown, hts⟩ (c_X6_domain l D ty h q l1 h1 z1) (cwV 0 hts gX6_minutesLeft_X6_domain rfl rfl rfl (by decide +kernel) ⟨Nat.le_of_ble_eq_true rfl, Nat.le_of_ble_eq_true rfl⟩) hK hX hP hD hS hA (pk (bs := [[ob h 5 [.ref q, .int l1, .int h1, .int z1]]]) (bsc := [[ob h 5 [.ref q, .int l1, .int h1, .int z1]]]) (bsr := []) [0] [] 1 rfl (by decide +kernel) rfl rfl) (ci := 5) rfl 0 rfl rfl hl.1 rfl (Nat.le_of_ble_eq_true rfl) dX6_minutesLeft_1 ⟨Nat.le_of_ble_eq_true rfl, Nat.le_of_ble_eq_true rfl⟩ (fun r_2 u_1 h_3 H locs hP hD hS => ?_)
  have h_3 : r_2 = (domv l1 h1) := h_3
  subst h_3
  have hP : va_P D vwCl (fl [[ob h 5 [.ref q, .int l1, .int h1, .int z1]]]) H := P_perm (po (bs := [[ob h 5 [.ref q, .int l1, .int h1, .int z1]]]) [0] 1 rfl (by decide +kernel) rfl) hP
  have hD : va_D A (fl [[ob h 5 [.ref q, .int l1, .int h1, .int z1]]]) := D_perm (po (bs := [[ob h 5 [.ref q, .int l1, .int h1, .int z1]]]) [0] 1 rfl (by decide +kernel) rfl) hD
  refine lv_if_ne (tgt := 12) hx hb dX6_minutesLeft_4 (by decide) (fun c_4 => ?_) (fun c_4 => ?_)
  · skip
    refine lv_aload_n hx hb dX6_minutesLeft_12 rfl (lv_at hl 0 rfl) ?_
    refine va_get (D := D) (ci := 5) (v := .int h1) (C := RX6) (T := TX6) (N := 4) hx hb hts i_X6 hown hK hP 0 rfl rfl 2 (by decide) (hts (Cond.fieldLink RX6 19 "BrownClock$Supply" "charge" "I") (List.mem_of_getElem? (i := 2) rfl)) (fun _ h9 => h9) rfl dX6_minutesLeft_13 ?_
    have hP : va_P D vwCl (fl [[ob h 5 [.ref q, .int l1, .int h1, .int z1]]]) H := hP
    have hD : va_D A (fl [[ob h 5 [.ref q, .int l1, .int h1, .int z1]]]) := hD
    exact end_i (bs' := (fun (_ : Unit) => [[ob h 5 [.ref q, .int l1, .int h1, .int z1]]])) () hx hb hr hlocks hP hD hS (by first | rfl | decide | simp [c_4]) (Nat.le_of_ble_eq_true rfl) (Nat.le_of_ble_eq_true rfl) dX6_minutesLeft_16
  · skip
    refine lv_ldc hx hb hown (hts (Cond.constant RX6 35 (-99999999)) (List.mem_of_getElem? (i := 1) rfl)) dX6_minutesLeft_7 ?_
    refine lv_goto (tgt := 16) hx hb dX6_minutesLeft_9 (by decide) ?_
    have hP : va_P D vwCl (fl [[ob h 5 [.ref q, .int l1, .int h1, .int z1]]]) H := hP
    have hD : va_D A (fl [[ob h 5 [.ref q, .int l1, .int h1, .int z1]]]) := hD
    exact end_i (bs' := (fun (_ : Unit) => [[ob h 5 [.ref q, .int l1, .int h1, .int z1]]])) () hx hb hr hlocks hP hD hS (by first | rfl | decide | simp [c_4]) (Nat.le_of_ble_eq_true rfl) (Nat.le_of_ble_eq_true rfl) dX6_minutesLeft_16
set_option maxHeartbeats 4000000 in
set_option maxRecDepth 100000 in
theorem c_X6_init (l : Launch) (D : va_G) (ty : Nat → ClassId) (h : Nat) : CTv l yX6_init wsX6_init ({ frames := 1, cells := 1, slots := 4, locals := 20 }) D ty [.ref h] [[ob h 5 [.null, .int 0, .int 0, .int 0]]] (fun (q : Nat) => True) (fun (q : Nat) => [[ob h 5 [.ref q, .int 0, .int 0, .int 0]], [ia ty q 4 (fun _ => 0)]]) := by
  refine CTv_of cX6_init 1 none (by decide) rfl (Nat.le_of_ble_eq_true rfl) ?_
  intro p e s m args below meth c A hx hb hr hml hown hlocks hin hts hA hX hK hP hD ls hl
  have hown : s.vm.findClass RX6 = some m.cls := hown
  have hS : va_S A s.heap s.heap [] := va_S.rf
  have i_X6 : ∀ z ∈ wsX60, z ∈ wsX6_init := fun z h => List.mem_cons_of_mem _ (List.mem_append_right _ h)
  have hl : lv_has ls 1 [(0, .ref h)] := hl
  refine lv_aload_n hx hb dX6_init_0 rfl (lv_at hl 0 rfl) ?_
  refine W.objInit hx hb hown (hts (Cond.methodLink RX6 3 objectInit) (List.mem_of_getElem? (i := 1) rfl)) (hts (Cond.instanceMethod objectInit) (List.mem_of_getElem? (i := 2) rfl)) (hts _ (List.mem_of_getElem? (i := 3) rfl)) rfl (by rw [hml]; exact hl.1) rfl dX6_init_1 (Nat.le_of_ble_eq_true rfl) (Nat.le_of_ble_eq_true rfl) ?_
  refine W.eq (g2 := F0 m 4 ls []) rfl ?_
  refine lv_aload_n hx hb dX6_init_4 rfl (lv_at hl 0 rfl) ?_
  refine lv_iconst (v := 4) hx hb dX6_init_5 (by decide) ?_
  refine k_newi (n := 4) hx hb (hts (Cond.arrayClass .int) (List.mem_of_getElem? (i := 4) rfl)) hK hP hD hS hA rfl (by decide) (Nat.le_of_ble_eq_true rfl) (Nat.le_of_ble_eq_true rfl) dX6_init_6 (fun q_1 H hP hD hS => ?_)
  rw [fl_push] at hP hD
  have hP : va_P D vwCl (fl [[ob h 5 [.null, .int 0, .int 0, .int 0]], [ia ty q_1 4 (fun _ => 0)]]) H := hP
  have hD : va_D A (fl [[ob h 5 [.null, .int 0, .int 0, .int 0]], [ia ty q_1 4 (fun _ => 0)]]) := hD
  refine va_putF (D := D) (ci := 5) (v := .ref q_1) (ty := .array (.int)) (C := RX6) (T := TX6) (N := 4) hx hb hts i_X6 tyX6 tyX6_ok nmX6 hown hK hP hD hS 0 rfl rfl 0 (by decide) (hts (Cond.fieldLink RX6 9 "BrownClock$Supply" "minutesIn" "[I") (List.mem_of_getElem? (i := 5) rfl)) (fun _ h9 => h9) rfl hin rfl (by decide +kernel) rfl rfl (Nat.le_of_ble_eq_true rfl) dX6_init_8 (fun H locs hP hD hS => ?_)
  have hP : va_P D vwCl (fl [[ob h 5 [.ref q_1, .int 0, .int 0, .int 0]], [ia ty q_1 4 (fun _ => 0)]]) H := hP
  have hD : va_D A (fl [[ob h 5 [.ref q_1, .int 0, .int 0, .int 0]], [ia ty q_1 4 (fun _ => 0)]]) := hD
  have hP : va_P D vwCl (fl [[ob h 5 [.ref q_1, .int 0, .int 0, .int 0]], [ia ty q_1 4 (fun _ => 0)]]) H := hP
  have hD : va_D A (fl [[ob h 5 [.ref q_1, .int 0, .int 0, .int 0]], [ia ty q_1 4 (fun _ => 0)]]) := hD
  exact end_v (bs' := (fun (q : Nat) => [[ob h 5 [.ref q, .int 0, .int 0, .int 0]], [ia ty q 4 (fun _ => 0)]])) q_1 hx hb hr hlocks hP hD hS trivial (Nat.le_of_ble_eq_true rfl) (Nat.le_of_ble_eq_true rfl) dX6_init_11
set_option maxHeartbeats 4000000 in
set_option maxRecDepth 100000 in
theorem c_X6_reset (l : Launch) (D : va_G) (ty : Nat → ClassId) (h q : Nat) (l1 h1 z1 : Int32) (f : Nat → Int32) : CTv l yX6_reset wsX6_reset ({ frames := 0, cells := 0, slots := 0, locals := 0 }) D ty [.ref h] [[ob h 5 [.ref q, .int l1, .int h1, .int z1]], [ia ty q 4 f]] (fun (_ : Unit) => True) (fun (_ : Unit) => [[ob h 5 [.ref q, .int 9, .int 1000, .int 0]], [ia ty q 4 (fun _ => 0)]]) := by
  refine CTv_of cX6_reset 2 none (by decide) rfl (Nat.le_of_ble_eq_true rfl) ?_
  intro p e s m args below meth c A hx hb hr hml hown hlocks hin hts hA hX hK hP hD ls hl
  have hown : s.vm.findClass RX6 = some m.cls := hown
  have hS : va_S A s.heap s.heap [] := va_S.rf
  have i_X6 : ∀ z ∈ wsX60, z ∈ wsX6_reset := fun z h => List.mem_cons_of_mem _ (List.mem_append_right _ h)
  have hl : lv_has ls 2 [(0, .ref h)] := hl
  refine lv_iconst (v := 0) hx hb dX6_reset_0 (by decide) ?_
  refine lv_istore_n (lv' := [(1, .int 0), (0, .ref h)]) hx hb dX6_reset_1 rfl hl (by decide) rfl (fun ls hl => ?_)
  refine lv_iload_n hx hb dX6_reset_2 rfl (lv_at hl 0 rfl) ?_
  refine lv_aload_n hx hb dX6_reset_3 rfl (lv_at hl 1 rfl) ?_
  refine va_get (D := D) (ci := 5) (v := .ref q) (C := RX6) (T := TX6) (N := 4) hx hb hts i_X6 hown hK hP 0 rfl rfl 0 (by decide) (hts (Cond.fieldLink RX6 9 "BrownClock$Supply" "minutesIn" "[I") (List.mem_of_getElem? (i := 1) rfl)) (fun _ h9 => h9) rfl dX6_reset_4 ?_
  refine va_alen hx hb hK hP 1 0 rfl rfl (v := 4) rfl dX6_reset_7 ?_
  refine lv_icmp_ge (tgt := 24) hx hb dX6_reset_8 (by decide) (fun c_1 => ?_) (fun c_1 => ?_)
  · exact absurd c_1 (by decide)
  · skip
    refine lv_aload_n hx hb dX6_reset_11 rfl (lv_at hl 1 rfl) ?_
    refine va_get (D := D) (ci := 5) (v := .ref q) (C := RX6) (T := TX6) (N := 4) hx hb hts i_X6 hown hK hP 0 rfl rfl 0 (by decide) (hts (Cond.fieldLink RX6 9 "BrownClock$Supply" "minutesIn" "[I") (List.mem_of_getElem? (i := 1) rfl)) (fun _ h9 => h9) rfl dX6_reset_12 ?_
    refine lv_iload_n hx hb dX6_reset_15 rfl (lv_at hl 0 rfl) ?_
    refine lv_iconst (v := 0) hx hb dX6_reset_16 (by decide) ?_
    refine k_iast hx hb hK hP hD hS 1 rfl 0 rfl (by decide) (Nat.le_of_ble_eq_true rfl) dX6_reset_17 (fun H locs hP hD hS => ?_)
    have hP : va_P D vwCl (fl [[ob h 5 [.ref q, .int l1, .int h1, .int z1]], [ia ty q 4 (upd f 0 0)]]) H := hP
    have hD : va_D A (fl [[ob h 5 [.ref q, .int l1, .int h1, .int z1]], [ia ty q 4 (upd f 0 0)]]) := hD
    refine lv_iinc (v := 1) (lv' := [(1, .int 1), (0, .ref h)]) hx hb dX6_reset_18 hl (k := 0) rfl (by decide) (by decide) rfl (fun ls hl => ?_)
    refine lv_goto (tgt := 2) hx hb dX6_reset_21 (by decide) ?_
    refine lv_iload_n hx hb dX6_reset_2 rfl (lv_at hl 0 rfl) ?_
    refine lv_aload_n hx hb dX6_reset_3 rfl (lv_at hl 1 rfl) ?_
    refine va_get (D := D) (ci := 5) (v := .ref q) (C := RX6) (T := TX6) (N := 4) hx hb hts i_X6 hown hK hP 0 rfl rfl 0 (by decide) (hts (Cond.fieldLink RX6 9 "BrownClock$Supply" "minutesIn" "[I") (List.mem_of_getElem? (i := 1) rfl)) (fun _ h9 => h9) rfl dX6_reset_4 ?_
    refine va_alen hx hb hK hP 1 0 rfl rfl (v := 4) rfl dX6_reset_7 ?_
    refine lv_icmp_ge (tgt := 24) hx hb dX6_reset_8 (by decide) (fun c_2 => ?_) (fun c_2 => ?_)
    · exact absurd c_2 (by decide)
    · skip
      refine lv_aload_n hx hb dX6_reset_11 rfl (lv_at hl 1 rfl) ?_
      refine va_get (D := D) (ci := 5) (v := .ref q) (C := RX6) (T := TX6) (N := 4) hx hb hts i_X6 hown hK hP 0 rfl rfl 0 (by decide) (hts (Cond.fieldLink RX6 9 "BrownClock$Supply" "minutesIn" "[I") (List.mem_of_getElem? (i := 1) rfl)) (fun _ h9 => h9) rfl dX6_reset_12 ?_
      refine lv_iload_n hx hb dX6_reset_15 rfl (lv_at hl 0 rfl) ?_
      refine lv_iconst (v := 0) hx hb dX6_reset_16 (by decide) ?_
      refine k_iast hx hb hK hP hD hS 1 rfl 1 rfl (by decide) (Nat.le_of_ble_eq_true rfl) dX6_reset_17 (fun H locs hP hD hS => ?_)
      have hP : va_P D vwCl (fl [[ob h 5 [.ref q, .int l1, .int h1, .int z1]], [ia ty q 4 (upd (upd f 0 0) 1 0)]]) H := hP
      have hD : va_D A (fl [[ob h 5 [.ref q, .int l1, .int h1, .int z1]], [ia ty q 4 (upd (upd f 0 0) 1 0)]]) := hD
      refine lv_iinc (v := 2) (lv' := [(1, .int 2), (0, .ref h)]) hx hb dX6_reset_18 hl (k := 0) rfl (by decide) (by decide) rfl (fun ls hl => ?_)
      refine lv_goto (tgt := 2) hx hb dX6_reset_21 (by decide) ?_
      refine lv_iload_n hx hb dX6_reset_2 rfl (lv_at hl 0 rfl) ?_
      refine lv_aload_n hx hb dX6_reset_3 rfl (lv_at hl 1 rfl) ?_
      refine va_get (D := D) (ci := 5) (v := .ref q) (C := RX6) (T := TX6) (N := 4) hx hb hts i_X6 hown hK hP 0 rfl rfl 0 (by decide) (hts (Cond.fieldLink RX6 9 "BrownClock$Supply" "minutesIn" "[I") (List.mem_of_getElem? (i := 1) rfl)) (fun _ h9 => h9) rfl dX6_reset_4 ?_
      refine va_alen hx hb hK hP 1 0 rfl rfl (v := 4) rfl dX6_reset_7 ?_
      refine lv_icmp_ge (tgt := 24) hx hb dX6_reset_8 (by decide) (fun c_3 => ?_) (fun c_3 => ?_)
      · exact absurd c_3 (by decide)
      · skip
        refine lv_aload_n hx hb dX6_reset_11 rfl (lv_at hl 1 rfl) ?_
        refine va_get (D := D) (ci := 5) (v := .ref q) (C := RX6) (T := TX6) (N := 4) hx hb hts i_X6 hown hK hP 0 rfl rfl 0 (by decide) (hts (Cond.fieldLink RX6 9 "BrownClock$Supply" "minutesIn" "[I") (List.mem_of_getElem? (i := 1) rfl)) (fun _ h9 => h9) rfl dX6_reset_12 ?_
        refine lv_iload_n hx hb dX6_reset_15 rfl (lv_at hl 0 rfl) ?_
        refine lv_iconst (v := 0) hx hb dX6_reset_16 (by decide) ?_
        refine k_iast hx hb hK hP hD hS 1 rfl 2 rfl (by decide) (Nat.le_of_ble_eq_true rfl) dX6_reset_17 (fun H locs hP hD hS => ?_)
        have hP : va_P D vwCl (fl [[ob h 5 [.ref q, .int l1, .int h1, .int z1]], [ia ty q 4 (upd (upd (upd f 0 0) 1 0) 2 0)]]) H := hP
        have hD : va_D A (fl [[ob h 5 [.ref q, .int l1, .int h1, .int z1]], [ia ty q 4 (upd (upd (upd f 0 0) 1 0) 2 0)]]) := hD
        refine lv_iinc (v := 3) (lv' := [(1, .int 3), (0, .ref h)]) hx hb dX6_reset_18 hl (k := 0) rfl (by decide) (by decide) rfl (fun ls hl => ?_)
        refine lv_goto (tgt := 2) hx hb dX6_reset_21 (by decide) ?_
        refine lv_iload_n hx hb dX6_reset_2 rfl (lv_at hl 0 rfl) ?_
        refine lv_aload_n hx hb dX6_reset_3 rfl (lv_at hl 1 rfl) ?_
        refine va_get (D := D) (ci := 5) (v := .ref q) (C := RX6) (T := TX6) (N := 4) hx hb hts i_X6 hown hK hP 0 rfl rfl 0 (by decide) (hts (Cond.fieldLink RX6 9 "BrownClock$Supply" "minutesIn" "[I") (List.mem_of_getElem? (i := 1) rfl)) (fun _ h9 => h9) rfl dX6_reset_4 ?_
        refine va_alen hx hb hK hP 1 0 rfl rfl (v := 4) rfl dX6_reset_7 ?_
        refine lv_icmp_ge (tgt := 24) hx hb dX6_reset_8 (by decide) (fun c_4 => ?_) (fun c_4 => ?_)
        · exact absurd c_4 (by decide)
        · skip
          refine lv_aload_n hx hb dX6_reset_11 rfl (lv_at hl 1 rfl) ?_
          refine va_get (D := D) (ci := 5) (v := .ref q) (C := RX6) (T := TX6) (N := 4) hx hb hts i_X6 hown hK hP 0 rfl rfl 0 (by decide) (hts (Cond.fieldLink RX6 9 "BrownClock$Supply" "minutesIn" "[I") (List.mem_of_getElem? (i := 1) rfl)) (fun _ h9 => h9) rfl dX6_reset_12 ?_
          refine lv_iload_n hx hb dX6_reset_15 rfl (lv_at hl 0 rfl) ?_
          refine lv_iconst (v := 0) hx hb dX6_reset_16 (by decide) ?_
          refine k_iast hx hb hK hP hD hS 1 rfl 3 rfl (by decide) (Nat.le_of_ble_eq_true rfl) dX6_reset_17 (fun H locs hP hD hS => ?_)
          have hP : va_P D vwCl (fl [[ob h 5 [.ref q, .int l1, .int h1, .int z1]], [ia ty q 4 (upd (upd (upd (upd f 0 0) 1 0) 2 0) 3 0)]]) H := hP
          have hD : va_D A (fl [[ob h 5 [.ref q, .int l1, .int h1, .int z1]], [ia ty q 4 (upd (upd (upd (upd f 0 0) 1 0) 2 0) 3 0)]]) := hD
          refine lv_iinc (v := 4) (lv' := [(1, .int 4), (0, .ref h)]) hx hb dX6_reset_18 hl (k := 0) rfl (by decide) (by decide) rfl (fun ls hl => ?_)
          refine lv_goto (tgt := 2) hx hb dX6_reset_21 (by decide) ?_
          refine lv_iload_n hx hb dX6_reset_2 rfl (lv_at hl 0 rfl) ?_
          refine lv_aload_n hx hb dX6_reset_3 rfl (lv_at hl 1 rfl) ?_
          refine va_get (D := D) (ci := 5) (v := .ref q) (C := RX6) (T := TX6) (N := 4) hx hb hts i_X6 hown hK hP 0 rfl rfl 0 (by decide) (hts (Cond.fieldLink RX6 9 "BrownClock$Supply" "minutesIn" "[I") (List.mem_of_getElem? (i := 1) rfl)) (fun _ h9 => h9) rfl dX6_reset_4 ?_
          refine va_alen hx hb hK hP 1 0 rfl rfl (v := 4) rfl dX6_reset_7 ?_
          refine lv_icmp_ge (tgt := 24) hx hb dX6_reset_8 (by decide) (fun c_5 => ?_) (fun c_5 => ?_)
          · skip
            refine lv_aload_n hx hb dX6_reset_24 rfl (lv_at hl 1 rfl) ?_
            refine lv_bipush (v := 9) hx hb dX6_reset_25 (by decide) ?_
            refine va_put (D := D) (ci := 5) (v := .int 9) (ty := .int) (C := RX6) (T := TX6) (N := 4) hx hb hts i_X6 tyX6 tyX6_ok nmX6 hown hK hP hD hS 0 rfl rfl 1 (by decide) (hts (Cond.fieldLink RX6 15 "BrownClock$Supply" "level" "I") (List.mem_of_getElem? (i := 2) rfl)) (fun _ h9 => h9) rfl (by decide +kernel) rfl rfl (Nat.le_of_ble_eq_true rfl) dX6_reset_27 (fun H locs hP hD hS => ?_)
            have hP : va_P D vwCl (fl [[ob h 5 [.ref q, .int 9, .int h1, .int z1]], [ia ty q 4 (upd (upd (upd (upd f 0 0) 1 0) 2 0) 3 0)]]) H := hP
            have hD : va_D A (fl [[ob h 5 [.ref q, .int 9, .int h1, .int z1]], [ia ty q 4 (upd (upd (upd (upd f 0 0) 1 0) 2 0) 3 0)]]) := hD
            refine lv_aload_n hx hb dX6_reset_30 rfl (lv_at hl 1 rfl) ?_
            refine lv_sipush (v := 1000) hx hb dX6_reset_31 (by decide) ?_
            refine va_put (D := D) (ci := 5) (v := .int 1000) (ty := .int) (C := RX6) (T := TX6) (N := 4) hx hb hts i_X6 tyX6 tyX6_ok nmX6 hown hK hP hD hS 0 rfl rfl 2 (by decide) (hts (Cond.fieldLink RX6 19 "BrownClock$Supply" "charge" "I") (List.mem_of_getElem? (i := 3) rfl)) (fun _ h9 => h9) rfl (by decide +kernel) rfl rfl (Nat.le_of_ble_eq_true rfl) dX6_reset_34 (fun H locs hP hD hS => ?_)
            have hP : va_P D vwCl (fl [[ob h 5 [.ref q, .int 9, .int 1000, .int z1]], [ia ty q 4 (upd (upd (upd (upd f 0 0) 1 0) 2 0) 3 0)]]) H := hP
            have hD : va_D A (fl [[ob h 5 [.ref q, .int 9, .int 1000, .int z1]], [ia ty q 4 (upd (upd (upd (upd f 0 0) 1 0) 2 0) 3 0)]]) := hD
            refine lv_aload_n hx hb dX6_reset_37 rfl (lv_at hl 1 rfl) ?_
            refine lv_iconst (v := 0) hx hb dX6_reset_38 (by decide) ?_
            refine va_put (D := D) (ci := 5) (v := .int 0) (ty := .int) (C := RX6) (T := TX6) (N := 4) hx hb hts i_X6 tyX6 tyX6_ok nmX6 hown hK hP hD hS 0 rfl rfl 3 (by decide) (hts (Cond.fieldLink RX6 22 "BrownClock$Supply" "losses" "I") (List.mem_of_getElem? (i := 4) rfl)) (fun _ h9 => h9) rfl (by decide +kernel) rfl rfl (Nat.le_of_ble_eq_true rfl) dX6_reset_39 (fun H locs hP hD hS => ?_)
            have hP : va_P D vwCl (fl [[ob h 5 [.ref q, .int 9, .int 1000, .int 0]], [ia ty q 4 (upd (upd (upd (upd f 0 0) 1 0) 2 0) 3 0)]]) H := hP
            have hD : va_D A (fl [[ob h 5 [.ref q, .int 9, .int 1000, .int 0]], [ia ty q 4 (upd (upd (upd (upd f 0 0) 1 0) 2 0) 3 0)]]) := hD
            have hP : va_P D vwCl (fl [[ob h 5 [.ref q, .int 9, .int 1000, .int 0]], [ia ty q 4 (fun _ => 0)]]) H := by
              obtain ⟨z0, hP⟩ := P_cons.mp hP
              obtain ⟨z1, hP⟩ := P_cons.mp hP
              exact P_cons.mpr ⟨z0, P_cons.mpr ⟨at_ia (fun k hk => by match k, hk with | 0, _ => rfl | 1, _ => rfl | 2, _ => rfl | 3, _ => rfl) z1, hP⟩⟩
            have hD : va_D A (fl [[ob h 5 [.ref q, .int 9, .int 1000, .int 0]], [ia ty q 4 (fun _ => 0)]]) := (D_same2 hD [h, q] rfl rfl)
            exact end_v (bs' := (fun (_ : Unit) => [[ob h 5 [.ref q, .int 9, .int 1000, .int 0]], [ia ty q 4 (fun _ => 0)]])) () hx hb hr hlocks hP hD hS trivial (Nat.le_of_ble_eq_true rfl) (Nat.le_of_ble_eq_true rfl) dX6_reset_42
          · exact absurd (by decide) c_5
set_option maxHeartbeats 4000000 in
set_option maxRecDepth 100000 in
theorem c_X6_copyFrom (l : Launch) (D : va_G) (ty : Nat → ClassId) (h q : Nat) (l1 h1 z1 : Int32) (f : Nat → Int32) (h2 q2 : Nat) (l2 b2 z2 : Int32) (f2 : Nat → Int32) : CTv l yX6_copyFrom wsX6_copyFrom ({ frames := 1, cells := 0, slots := 0, locals := 32 }) D ty [.ref h, .ref h2] [[ob h 5 [.ref q, .int l1, .int h1, .int z1]], [ia ty q 4 f], [ob h2 5 [.ref q2, .int l2, .int b2, .int z2]], [ia ty q2 4 f2]] (fun (_ : Unit) => True) (fun (_ : Unit) => [[ob h 5 [.ref q, .int l2, .int b2, .int z2]], [ia ty q 4 f2], [ob h2 5 [.ref q2, .int l2, .int b2, .int z2]], [ia ty q2 4 f2]]) := by
  refine CTv_of cX6_copyFrom 2 none (by decide) rfl (Nat.le_of_ble_eq_true rfl) ?_
  intro p e s m args below meth c A hx hb hr hml hown hlocks hin hts hA hX hK hP hD ls hl
  have hown : s.vm.findClass RX6 = some m.cls := hown
  have hS : va_S A s.heap s.heap [] := va_S.rf
  have i_X6 : ∀ z ∈ wsX60, z ∈ wsX6_copyFrom := fun z h => List.mem_cons_of_mem _ (List.mem_append_right _ h)
  have hl : lv_has ls 2 [(0, .ref h), (1, .ref h2)] := hl
  refine lv_aload_n hx hb dX6_copyFrom_0 rfl (lv_at hl 1 rfl) ?_
  refine va_get (D := D) (ci := 5) (v := .ref q2) (C := RX6) (T := TX6) (N := 4) hx hb hts i_X6 hown hK hP 2 rfl rfl 0 (by decide) (hts (Cond.fieldLink RX6 9 "BrownClock$Supply" "minutesIn" "[I") (List.mem_of_getElem? (i := 1) rfl)) (fun _ h9 => h9) rfl dX6_copyFrom_1 ?_
  refine lv_iconst (v := 0) hx hb dX6_copyFrom_4 (by decide) ?_
  refine lv_aload_n hx hb dX6_copyFrom_5 rfl (lv_at hl 0 rfl) ?_
  refine va_get (D := D) (ci := 5) (v := .ref q) (C := RX6) (T := TX6) (N := 4) hx hb hts i_X6 hown hK hP 0 rfl rfl 0 (by decide) (hts (Cond.fieldLink RX6 9 "BrownClock$Supply" "minutesIn" "[I") (List.mem_of_getElem? (i := 1) rfl)) (fun _ h9 => h9) rfl dX6_copyFrom_6 ?_
  refine lv_iconst (v := 0) hx hb dX6_copyFrom_9 (by decide) ?_
  refine lv_iconst (v := 4) hx hb dX6_copyFrom_10 (by decide) ?_
  refine k_copyi hx hb (hml.trans hl.1.symm) hown (hts (Cond.methodLink RX6 25 arraycopyName) (List.mem_of_getElem? (i := 2) rfl)) (hts (Cond.native arraycopyName) (List.mem_of_getElem? (i := 3) rfl)) (hts (Cond.static arraycopyName) (List.mem_of_getElem? (i := 4) rfl)) (hts (Cond.initialized "java/lang/System") (List.mem_of_getElem? (i := 5) rfl)) hK hP hD hS 3 1 rfl rfl (n := 4) rfl (by decide) (Nat.le_of_ble_eq_true rfl) (Nat.le_of_ble_eq_true rfl) dX6_copyFrom_11 (fun H locs hP hD hS => ?_)
  have hP : va_P D vwCl (fl [[ob h 5 [.ref q, .int l1, .int h1, .int z1]], [ia ty q 4 f2], [ob h2 5 [.ref q2, .int l2, .int b2, .int z2]], [ia ty q2 4 f2]]) H := hP
  have hD : va_D A (fl [[ob h 5 [.ref q, .int l1, .int h1, .int z1]], [ia ty q 4 f2], [ob h2 5 [.ref q2, .int l2, .int b2, .int z2]], [ia ty q2 4 f2]]) := hD
  refine lv_aload_n hx hb dX6_copyFrom_14 rfl (lv_at hl 0 rfl) ?_
  refine lv_aload_n hx hb dX6_copyFrom_15 rfl (lv_at hl 1 rfl) ?_
  refine va_get (D := D) (ci := 5) (v := .int l2) (C := RX6) (T := TX6) (N := 4) hx hb hts i_X6 hown hK hP 2 rfl rfl 1 (by decide) (hts (Cond.fieldLink RX6 15 "BrownClock$Supply" "level" "I") (List.mem_of_getElem? (i := 6) rfl)) (fun _ h9 => h9) rfl dX6_copyFrom_16 ?_
  refine va_put (D := D) (ci := 5) (v := .int l2) (ty := .int) (C := RX6) (T := TX6) (N := 4) hx hb hts i_X6 tyX6 tyX6_ok nmX6 hown hK hP hD hS 0 rfl rfl 1 (by decide) (hts (Cond.fieldLink RX6 15 "BrownClock$Supply" "level" "I") (List.mem_of_getElem? (i := 6) rfl)) (fun _ h9 => h9) rfl (by decide +kernel) rfl rfl (Nat.le_of_ble_eq_true rfl) dX6_copyFrom_19 (fun H locs hP hD hS => ?_)
  have hP : va_P D vwCl (fl [[ob h 5 [.ref q, .int l2, .int h1, .int z1]], [ia ty q 4 f2], [ob h2 5 [.ref q2, .int l2, .int b2, .int z2]], [ia ty q2 4 f2]]) H := hP
  have hD : va_D A (fl [[ob h 5 [.ref q, .int l2, .int h1, .int z1]], [ia ty q 4 f2], [ob h2 5 [.ref q2, .int l2, .int b2, .int z2]], [ia ty q2 4 f2]]) := hD
  refine lv_aload_n hx hb dX6_copyFrom_22 rfl (lv_at hl 0 rfl) ?_
  refine lv_aload_n hx hb dX6_copyFrom_23 rfl (lv_at hl 1 rfl) ?_
  refine va_get (D := D) (ci := 5) (v := .int b2) (C := RX6) (T := TX6) (N := 4) hx hb hts i_X6 hown hK hP 2 rfl rfl 2 (by decide) (hts (Cond.fieldLink RX6 19 "BrownClock$Supply" "charge" "I") (List.mem_of_getElem? (i := 7) rfl)) (fun _ h9 => h9) rfl dX6_copyFrom_24 ?_
  refine va_put (D := D) (ci := 5) (v := .int b2) (ty := .int) (C := RX6) (T := TX6) (N := 4) hx hb hts i_X6 tyX6 tyX6_ok nmX6 hown hK hP hD hS 0 rfl rfl 2 (by decide) (hts (Cond.fieldLink RX6 19 "BrownClock$Supply" "charge" "I") (List.mem_of_getElem? (i := 7) rfl)) (fun _ h9 => h9) rfl (by decide +kernel) rfl rfl (Nat.le_of_ble_eq_true rfl) dX6_copyFrom_27 (fun H locs hP hD hS => ?_)
  have hP : va_P D vwCl (fl [[ob h 5 [.ref q, .int l2, .int b2, .int z1]], [ia ty q 4 f2], [ob h2 5 [.ref q2, .int l2, .int b2, .int z2]], [ia ty q2 4 f2]]) H := hP
  have hD : va_D A (fl [[ob h 5 [.ref q, .int l2, .int b2, .int z1]], [ia ty q 4 f2], [ob h2 5 [.ref q2, .int l2, .int b2, .int z2]], [ia ty q2 4 f2]]) := hD
  refine lv_aload_n hx hb dX6_copyFrom_30 rfl (lv_at hl 0 rfl) ?_
  refine lv_aload_n hx hb dX6_copyFrom_31 rfl (lv_at hl 1 rfl) ?_
  refine va_get (D := D) (ci := 5) (v := .int z2) (C := RX6) (T := TX6) (N := 4) hx hb hts i_X6 hown hK hP 2 rfl rfl 3 (by decide) (hts (Cond.fieldLink RX6 22 "BrownClock$Supply" "losses" "I") (List.mem_of_getElem? (i := 8) rfl)) (fun _ h9 => h9) rfl dX6_copyFrom_32 ?_
  refine va_put (D := D) (ci := 5) (v := .int z2) (ty := .int) (C := RX6) (T := TX6) (N := 4) hx hb hts i_X6 tyX6 tyX6_ok nmX6 hown hK hP hD hS 0 rfl rfl 3 (by decide) (hts (Cond.fieldLink RX6 22 "BrownClock$Supply" "losses" "I") (List.mem_of_getElem? (i := 8) rfl)) (fun _ h9 => h9) rfl (by decide +kernel) rfl rfl (Nat.le_of_ble_eq_true rfl) dX6_copyFrom_35 (fun H locs hP hD hS => ?_)
  have hP : va_P D vwCl (fl [[ob h 5 [.ref q, .int l2, .int b2, .int z2]], [ia ty q 4 f2], [ob h2 5 [.ref q2, .int l2, .int b2, .int z2]], [ia ty q2 4 f2]]) H := hP
  have hD : va_D A (fl [[ob h 5 [.ref q, .int l2, .int b2, .int z2]], [ia ty q 4 f2], [ob h2 5 [.ref q2, .int l2, .int b2, .int z2]], [ia ty q2 4 f2]]) := hD
  have hP : va_P D vwCl (fl [[ob h 5 [.ref q, .int l2, .int b2, .int z2]], [ia ty q 4 f2], [ob h2 5 [.ref q2, .int l2, .int b2, .int z2]], [ia ty q2 4 f2]]) H := hP
  have hD : va_D A (fl [[ob h 5 [.ref q, .int l2, .int b2, .int z2]], [ia ty q 4 f2], [ob h2 5 [.ref q2, .int l2, .int b2, .int z2]], [ia ty q2 4 f2]]) := hD
  exact end_v (bs' := (fun (_ : Unit) => [[ob h 5 [.ref q, .int l2, .int b2, .int z2]], [ia ty q 4 f2], [ob h2 5 [.ref q2, .int l2, .int b2, .int z2]], [ia ty q2 4 f2]])) () hx hb hr hlocks hP hD hS trivial (Nat.le_of_ble_eq_true rfl) (Nat.le_of_ble_eq_true rfl) dX6_copyFrom_38
set_option maxHeartbeats 4000000 in
set_option maxRecDepth 100000 in
theorem c_X6_spendMinute (l : Launch) (D : va_G) (ty : Nat → ClassId) (h q : Nat) (l1 h1 z1 : Int32) (f : Nat → Int32) : CTv l yX6_spendMinute wsX6_spendMinute ({ frames := 1, cells := 0, slots := 0, locals := 20 }) D ty [.ref h] [[ob h 5 [.ref q, .int l1, .int h1, .int z1]], [ia ty q 4 f]] (fun (_ : Unit) => True) (fun (_ : Unit) => [[ob h 5 [.ref q, .int l1, .int (if (domv l1 h1) = 1 ∨ (domv l1 h1) = 2 then h1 - 1 else h1), .int z1]], [ia ty q 4 (upd f (domv l1 h1).toNatClampNeg (f (domv l1 h1).toNatClampNeg + 1))]]) := by
  refine CTv_of cX6_spendMinute 2 none (by decide) rfl (Nat.le_of_ble_eq_true rfl) ?_
  intro p e s m args below meth c A hx hb hr hml hown hlocks hin hts hA hX hK hP hD ls hl
  have hown : s.vm.findClass RX6 = some m.cls := hown
  have hS : va_S A s.heap s.heap [] := va_S.rf
  have i_X6 : ∀ z ∈ wsX60, z ∈ wsX6_spendMinute := fun z h => List.mem_cons_of_mem _ (List.mem_append_right _ h)
  have hl : lv_has ls 2 [(0, .ref h)] := hl
  refine lv_aload_n hx hb dX6_spendMinute_0 rfl (lv_at hl 0 rfl) ?_
  refine cVi (As := []) (rest := []) ⟨hx, hb, hml, hown, hts⟩ (c_X6_domain l D ty h q l1 h1 z1) (cwV 0 hts gX6_spendMinute_X6_domain rfl rfl rfl (by decide +kernel) ⟨Nat.le_of_ble_eq_true rfl, Nat.le_of_ble_eq_true rfl⟩) hK hX hP hD hS hA (pk (bs := [[ob h 5 [.ref q, .int l1, .int h1, .int z1]], [ia ty q 4 f]]) (bsc := [[ob h 5 [.ref q, .int l1, .int h1, .int z1]]]) (bsr := [[ia ty q 4 f]]) [0] [1] 2 rfl (by decide +kernel) rfl rfl) (ci := 5) rfl 0 rfl rfl hl.1 rfl (Nat.le_of_ble_eq_true rfl) dX6_spendMinute_1 ⟨Nat.le_of_ble_eq_true rfl, Nat.le_of_ble_eq_true rfl⟩ (fun r_2 u_1 h_3 H locs hP hD hS => ?_)
  have h_3 : r_2 = (domv l1 h1) := h_3
  subst h_3
  have hP : va_P D vwCl (fl [[ob h 5 [.ref q, .int l1, .int h1, .int z1]], [ia ty q 4 f]]) H := P_perm (po (bs := [[ob h 5 [.ref q, .int l1, .int h1, .int z1]], [ia ty q 4 f]]) [0, 1] 2 rfl (by decide +kernel) rfl) hP
  have hD : va_D A (fl [[ob h 5 [.ref q, .int l1, .int h1, .int z1]], [ia ty q 4 f]]) := D_perm (po (bs := [[ob h 5 [.ref q, .int l1, .int h1, .int z1]], [ia ty q 4 f]]) [0, 1] 2 rfl (by decide +kernel) rfl) hD
  refine lv_istore_n (lv' := [(1, .int (domv l1 h1)), (0, .ref h)]) hx hb dX6_spendMinute_4 rfl hl (by decide) rfl (fun ls hl => ?_)
  refine lv_aload_n hx hb dX6_spendMinute_5 rfl (lv_at hl 1 rfl) ?_
  refine va_get (D := D) (ci := 5) (v := .ref q) (C := RX6) (T := TX6) (N := 4) hx hb hts i_X6 hown hK hP 0 rfl rfl 0 (by decide) (hts (Cond.fieldLink RX6 9 "BrownClock$Supply" "minutesIn" "[I") (List.mem_of_getElem? (i := 1) rfl)) (fun _ h9 => h9) rfl dX6_spendMinute_6 ?_
  refine lv_iload_n hx hb dX6_spendMinute_9 rfl (lv_at hl 0 rfl) ?_
  refine lv_dup2_11 hx hb dX6_spendMinute_10 rfl rfl ?_
  refine k_iald hx hb hK hP 1 rfl ((domv l1 h1).toNatClampNeg) (domv_nI l1 h1) (domv_lt l1 h1) (Nat.le_of_ble_eq_true rfl) (v := f ((domv l1 h1).toNatClampNeg)) rfl dX6_spendMinute_11 ?_
  refine lv_iconst (v := 1) hx hb dX6_spendMinute_12 (by decide) ?_
  refine k_iadd (v := ((f ((domv l1 h1).toNatClampNeg)) + 1)) hx hb dX6_spendMinute_13 rfl ?_
  refine k_iast hx hb hK hP hD hS 1 rfl ((domv l1 h1).toNatClampNeg) (domv_nI l1 h1) (domv_lt l1 h1) (Nat.le_of_ble_eq_true rfl) dX6_spendMinute_14 (fun H locs hP hD hS => ?_)
  have hP : va_P D vwCl (fl [[ob h 5 [.ref q, .int l1, .int h1, .int z1]], [ia ty q 4 (upd f ((domv l1 h1).toNatClampNeg) ((f ((domv l1 h1).toNatClampNeg)) + 1))]]) H := hP
  have hD : va_D A (fl [[ob h 5 [.ref q, .int l1, .int h1, .int z1]], [ia ty q 4 (upd f ((domv l1 h1).toNatClampNeg) ((f ((domv l1 h1).toNatClampNeg)) + 1))]]) := hD
  refine lv_iload_n hx hb dX6_spendMinute_15 rfl (lv_at hl 0 rfl) ?_
  refine lv_iconst (v := 1) hx hb dX6_spendMinute_16 (by decide) ?_
  refine lv_icmp_eq (tgt := 25) hx hb dX6_spendMinute_17 (by decide) (fun c_4 => ?_) (fun c_4 => ?_)
  · skip
    refine lv_aload_n hx hb dX6_spendMinute_25 rfl (lv_at hl 1 rfl) ?_
    refine lv_dup hx hb dX6_spendMinute_26 rfl ?_
    refine va_get (D := D) (ci := 5) (v := .int h1) (C := RX6) (T := TX6) (N := 4) hx hb hts i_X6 hown hK hP 0 rfl rfl 2 (by decide) (hts (Cond.fieldLink RX6 19 "BrownClock$Supply" "charge" "I") (List.mem_of_getElem? (i := 2) rfl)) (fun _ h9 => h9) rfl dX6_spendMinute_27 ?_
    refine lv_iconst (v := 1) hx hb dX6_spendMinute_30 (by decide) ?_
    refine k_isub (v := (h1 - 1)) hx hb dX6_spendMinute_31 rfl ?_
    refine va_put (D := D) (ci := 5) (v := .int (h1 - 1)) (ty := .int) (C := RX6) (T := TX6) (N := 4) hx hb hts i_X6 tyX6 tyX6_ok nmX6 hown hK hP hD hS 0 rfl rfl 2 (by decide) (hts (Cond.fieldLink RX6 19 "BrownClock$Supply" "charge" "I") (List.mem_of_getElem? (i := 2) rfl)) (fun _ h9 => h9) rfl (by decide +kernel) rfl rfl (Nat.le_of_ble_eq_true rfl) dX6_spendMinute_32 (fun H locs hP hD hS => ?_)
    have hP : va_P D vwCl (fl [[ob h 5 [.ref q, .int l1, .int (h1 - 1), .int z1]], [ia ty q 4 (upd f ((domv l1 h1).toNatClampNeg) ((f ((domv l1 h1).toNatClampNeg)) + 1))]]) H := hP
    have hD : va_D A (fl [[ob h 5 [.ref q, .int l1, .int (h1 - 1), .int z1]], [ia ty q 4 (upd f ((domv l1 h1).toNatClampNeg) ((f ((domv l1 h1).toNatClampNeg)) + 1))]]) := hD
    have hP : va_P D vwCl (fl [[ob h 5 [.ref q, .int l1, .int (if (domv l1 h1) = 1 ∨ (domv l1 h1) = 2 then h1 - 1 else h1), .int z1]], [ia ty q 4 (upd f (domv l1 h1).toNatClampNeg (f (domv l1 h1).toNatClampNeg + 1))]]) H := by rw [if_pos (Or.inl c_4)]; exact hP
    have hD : va_D A (fl [[ob h 5 [.ref q, .int l1, .int (if (domv l1 h1) = 1 ∨ (domv l1 h1) = 2 then h1 - 1 else h1), .int z1]], [ia ty q 4 (upd f (domv l1 h1).toNatClampNeg (f (domv l1 h1).toNatClampNeg + 1))]]) := (D_same2 hD [h, q] rfl rfl)
    exact end_v (bs' := (fun (_ : Unit) => [[ob h 5 [.ref q, .int l1, .int (if (domv l1 h1) = 1 ∨ (domv l1 h1) = 2 then h1 - 1 else h1), .int z1]], [ia ty q 4 (upd f (domv l1 h1).toNatClampNeg (f (domv l1 h1).toNatClampNeg + 1))]])) () hx hb hr hlocks hP hD hS trivial (Nat.le_of_ble_eq_true rfl) (Nat.le_of_ble_eq_true rfl) dX6_spendMinute_35
  · skip
    refine lv_iload_n hx hb dX6_spendMinute_20 rfl (lv_at hl 0 rfl) ?_
    refine lv_iconst (v := 2) hx hb dX6_spendMinute_21 (by decide) ?_
    refine lv_icmp_ne (tgt := 35) hx hb dX6_spendMinute_22 (by decide) (fun c_5 => ?_) (fun c_5 => ?_)
    · skip
      have hP : va_P D vwCl (fl [[ob h 5 [.ref q, .int l1, .int (if (domv l1 h1) = 1 ∨ (domv l1 h1) = 2 then h1 - 1 else h1), .int z1]], [ia ty q 4 (upd f (domv l1 h1).toNatClampNeg (f (domv l1 h1).toNatClampNeg + 1))]]) H := by rw [if_neg (fun q => q.elim c_4 c_5)]; exact hP
      have hD : va_D A (fl [[ob h 5 [.ref q, .int l1, .int (if (domv l1 h1) = 1 ∨ (domv l1 h1) = 2 then h1 - 1 else h1), .int z1]], [ia ty q 4 (upd f (domv l1 h1).toNatClampNeg (f (domv l1 h1).toNatClampNeg + 1))]]) := (D_same2 hD [h, q] rfl rfl)
      exact end_v (bs' := (fun (_ : Unit) => [[ob h 5 [.ref q, .int l1, .int (if (domv l1 h1) = 1 ∨ (domv l1 h1) = 2 then h1 - 1 else h1), .int z1]], [ia ty q 4 (upd f (domv l1 h1).toNatClampNeg (f (domv l1 h1).toNatClampNeg + 1))]])) () hx hb hr hlocks hP hD hS trivial (Nat.le_of_ble_eq_true rfl) (Nat.le_of_ble_eq_true rfl) dX6_spendMinute_35
    · skip
      refine lv_aload_n hx hb dX6_spendMinute_25 rfl (lv_at hl 1 rfl) ?_
      refine lv_dup hx hb dX6_spendMinute_26 rfl ?_
      refine va_get (D := D) (ci := 5) (v := .int h1) (C := RX6) (T := TX6) (N := 4) hx hb hts i_X6 hown hK hP 0 rfl rfl 2 (by decide) (hts (Cond.fieldLink RX6 19 "BrownClock$Supply" "charge" "I") (List.mem_of_getElem? (i := 2) rfl)) (fun _ h9 => h9) rfl dX6_spendMinute_27 ?_
      refine lv_iconst (v := 1) hx hb dX6_spendMinute_30 (by decide) ?_
      refine k_isub (v := (h1 - 1)) hx hb dX6_spendMinute_31 rfl ?_
      refine va_put (D := D) (ci := 5) (v := .int (h1 - 1)) (ty := .int) (C := RX6) (T := TX6) (N := 4) hx hb hts i_X6 tyX6 tyX6_ok nmX6 hown hK hP hD hS 0 rfl rfl 2 (by decide) (hts (Cond.fieldLink RX6 19 "BrownClock$Supply" "charge" "I") (List.mem_of_getElem? (i := 2) rfl)) (fun _ h9 => h9) rfl (by decide +kernel) rfl rfl (Nat.le_of_ble_eq_true rfl) dX6_spendMinute_32 (fun H locs hP hD hS => ?_)
      have hP : va_P D vwCl (fl [[ob h 5 [.ref q, .int l1, .int (h1 - 1), .int z1]], [ia ty q 4 (upd f ((domv l1 h1).toNatClampNeg) ((f ((domv l1 h1).toNatClampNeg)) + 1))]]) H := hP
      have hD : va_D A (fl [[ob h 5 [.ref q, .int l1, .int (h1 - 1), .int z1]], [ia ty q 4 (upd f ((domv l1 h1).toNatClampNeg) ((f ((domv l1 h1).toNatClampNeg)) + 1))]]) := hD
      have hP : va_P D vwCl (fl [[ob h 5 [.ref q, .int l1, .int (if (domv l1 h1) = 1 ∨ (domv l1 h1) = 2 then h1 - 1 else h1), .int z1]], [ia ty q 4 (upd f (domv l1 h1).toNatClampNeg (f (domv l1 h1).toNatClampNeg + 1))]]) H := by rw [if_pos (Or.inr c_5)]; exact hP
      have hD : va_D A (fl [[ob h 5 [.ref q, .int l1, .int (if (domv l1 h1) = 1 ∨ (domv l1 h1) = 2 then h1 - 1 else h1), .int z1]], [ia ty q 4 (upd f (domv l1 h1).toNatClampNeg (f (domv l1 h1).toNatClampNeg + 1))]]) := (D_same2 hD [h, q] rfl rfl)
      exact end_v (bs' := (fun (_ : Unit) => [[ob h 5 [.ref q, .int l1, .int (if (domv l1 h1) = 1 ∨ (domv l1 h1) = 2 then h1 - 1 else h1), .int z1]], [ia ty q 4 (upd f (domv l1 h1).toNatClampNeg (f (domv l1 h1).toNatClampNeg + 1))]])) () hx hb hr hlocks hP hD hS trivial (Nat.le_of_ble_eq_true rfl) (Nat.le_of_ble_eq_true rfl) dX6_spendMinute_35
set_option maxHeartbeats 4000000 in
set_option maxRecDepth 100000 in
theorem c_X7_init (l : Launch) (D : va_G) (ty : Nat → ClassId) (h : Nat) : CTv l yX7_init wsX7_init ({ frames := 1, cells := 4, slots := 21, locals := 20 }) D ty [.ref h] [[ob h 6 [.null, .null, .null, .null, .int 0, .int 0]]] (fun (u : Nat × Nat × Nat × Nat) => match u with | (g, a, b, d) => True) (fun (u : Nat × Nat × Nat × Nat) => match u with | (g, a, b, d) => [[ob h 6 [.ref g, .ref a, .ref b, .ref d, .int 0, .int 0]], [za ty g 3 (fun _ => 0)], [ia ty a 6 (fun _ => 0)], [ia ty b 6 (fun _ => 0)], [ia ty d 6 (fun _ => 0)]]) := by
  refine CTv_of cX7_init 1 none (by decide) rfl (Nat.le_of_ble_eq_true rfl) ?_
  intro p e s m args below meth c A hx hb hr hml hown hlocks hin hts hA hX hK hP hD ls hl
  have hown : s.vm.findClass RX7 = some m.cls := hown
  have hS : va_S A s.heap s.heap [] := va_S.rf
  have i_X7 : ∀ z ∈ wsX70, z ∈ wsX7_init := fun z h => List.mem_cons_of_mem _ (List.mem_append_right _ h)
  have hl : lv_has ls 1 [(0, .ref h)] := hl
  refine lv_aload_n hx hb dX7_init_0 rfl (lv_at hl 0 rfl) ?_
  refine W.objInit hx hb hown (hts (Cond.methodLink RX7 3 objectInit) (List.mem_of_getElem? (i := 1) rfl)) (hts (Cond.instanceMethod objectInit) (List.mem_of_getElem? (i := 2) rfl)) (hts _ (List.mem_of_getElem? (i := 3) rfl)) rfl (by rw [hml]; exact hl.1) rfl dX7_init_1 (Nat.le_of_ble_eq_true rfl) (Nat.le_of_ble_eq_true rfl) ?_
  refine W.eq (g2 := F0 m 4 ls []) rfl ?_
  refine lv_aload_n hx hb dX7_init_4 rfl (lv_at hl 0 rfl) ?_
  refine lv_iconst (v := 3) hx hb dX7_init_5 (by decide) ?_
  refine k_newz (n := 3) hx hb (hts (Cond.arrayClass .boolean) (List.mem_of_getElem? (i := 4) rfl)) hK hP hD hS hA rfl (by decide) (Nat.le_of_ble_eq_true rfl) (Nat.le_of_ble_eq_true rfl) dX7_init_6 (fun q_1 H hP hD hS => ?_)
  rw [fl_push] at hP hD
  have hP : va_P D vwCl (fl [[ob h 6 [.null, .null, .null, .null, .int 0, .int 0]], [za ty q_1 3 (fun _ => 0)]]) H := hP
  have hD : va_D A (fl [[ob h 6 [.null, .null, .null, .null, .int 0, .int 0]], [za ty q_1 3 (fun _ => 0)]]) := hD
  refine va_putF (D := D) (ci := 6) (v := .ref q_1) (ty := .array (.boolean)) (C := RX7) (T := TX7) (N := 6) hx hb hts i_X7 tyX7 tyX7_ok nmX7 hown hK hP hD hS 0 rfl rfl 0 (by decide) (hts (Cond.fieldLink RX7 9 "BrownClock$Tampers" "guarded" "[Z") (List.mem_of_getElem? (i := 5) rfl)) (fun _ h9 => h9) rfl hin rfl (by decide +kernel) rfl rfl (Nat.le_of_ble_eq_true rfl) dX7_init_8 (fun H locs hP hD hS => ?_)
  have hP : va_P D vwCl (fl [[ob h 6 [.ref q_1, .null, .null, .null, .int 0, .int 0]], [za ty q_1 3 (fun _ => 0)]]) H := hP
  have hD : va_D A (fl [[ob h 6 [.ref q_1, .null, .null, .null, .int 0, .int 0]], [za ty q_1 3 (fun _ => 0)]]) := hD
  refine lv_aload_n hx hb dX7_init_11 rfl (lv_at hl 0 rfl) ?_
  refine lv_bipush (v := 6) hx hb dX7_init_12 (by decide) ?_
  refine k_newi (n := 6) hx hb (hts (Cond.arrayClass .int) (List.mem_of_getElem? (i := 6) rfl)) hK hP hD hS hA rfl (by decide) (Nat.le_of_ble_eq_true rfl) (Nat.le_of_ble_eq_true rfl) dX7_init_14 (fun q_2 H hP hD hS => ?_)
  rw [fl_push] at hP hD
  have hP : va_P D vwCl (fl [[ob h 6 [.ref q_1, .null, .null, .null, .int 0, .int 0]], [za ty q_1 3 (fun _ => 0)], [ia ty q_2 6 (fun _ => 0)]]) H := hP
  have hD : va_D A (fl [[ob h 6 [.ref q_1, .null, .null, .null, .int 0, .int 0]], [za ty q_1 3 (fun _ => 0)], [ia ty q_2 6 (fun _ => 0)]]) := hD
  refine va_putF (D := D) (ci := 6) (v := .ref q_2) (ty := .array (.int)) (C := RX7) (T := TX7) (N := 6) hx hb hts i_X7 tyX7 tyX7_ok nmX7 hown hK hP hD hS 0 rfl rfl 1 (by decide) (hts (Cond.fieldLink RX7 15 "BrownClock$Tampers" "rowPin" "[I") (List.mem_of_getElem? (i := 7) rfl)) (fun _ h9 => h9) rfl hin rfl (by decide +kernel) rfl rfl (Nat.le_of_ble_eq_true rfl) dX7_init_16 (fun H locs hP hD hS => ?_)
  have hP : va_P D vwCl (fl [[ob h 6 [.ref q_1, .ref q_2, .null, .null, .int 0, .int 0]], [za ty q_1 3 (fun _ => 0)], [ia ty q_2 6 (fun _ => 0)]]) H := hP
  have hD : va_D A (fl [[ob h 6 [.ref q_1, .ref q_2, .null, .null, .int 0, .int 0]], [za ty q_1 3 (fun _ => 0)], [ia ty q_2 6 (fun _ => 0)]]) := hD
  refine lv_aload_n hx hb dX7_init_19 rfl (lv_at hl 0 rfl) ?_
  refine lv_bipush (v := 6) hx hb dX7_init_20 (by decide) ?_
  refine k_newi (n := 6) hx hb (hts (Cond.arrayClass .int) (List.mem_of_getElem? (i := 6) rfl)) hK hP hD hS hA rfl (by decide) (Nat.le_of_ble_eq_true rfl) (Nat.le_of_ble_eq_true rfl) dX7_init_22 (fun q_3 H hP hD hS => ?_)
  rw [fl_push] at hP hD
  have hP : va_P D vwCl (fl [[ob h 6 [.ref q_1, .ref q_2, .null, .null, .int 0, .int 0]], [za ty q_1 3 (fun _ => 0)], [ia ty q_2 6 (fun _ => 0)], [ia ty q_3 6 (fun _ => 0)]]) H := hP
  have hD : va_D A (fl [[ob h 6 [.ref q_1, .ref q_2, .null, .null, .int 0, .int 0]], [za ty q_1 3 (fun _ => 0)], [ia ty q_2 6 (fun _ => 0)], [ia ty q_3 6 (fun _ => 0)]]) := hD
  refine va_putF (D := D) (ci := 6) (v := .ref q_3) (ty := .array (.int)) (C := RX7) (T := TX7) (N := 6) hx hb hts i_X7 tyX7 tyX7_ok nmX7 hown hK hP hD hS 0 rfl rfl 2 (by decide) (hts (Cond.fieldLink RX7 19 "BrownClock$Tampers" "rowSeconds" "[I") (List.mem_of_getElem? (i := 8) rfl)) (fun _ h9 => h9) rfl hin rfl (by decide +kernel) rfl rfl (Nat.le_of_ble_eq_true rfl) dX7_init_24 (fun H locs hP hD hS => ?_)
  have hP : va_P D vwCl (fl [[ob h 6 [.ref q_1, .ref q_2, .ref q_3, .null, .int 0, .int 0]], [za ty q_1 3 (fun _ => 0)], [ia ty q_2 6 (fun _ => 0)], [ia ty q_3 6 (fun _ => 0)]]) H := hP
  have hD : va_D A (fl [[ob h 6 [.ref q_1, .ref q_2, .ref q_3, .null, .int 0, .int 0]], [za ty q_1 3 (fun _ => 0)], [ia ty q_2 6 (fun _ => 0)], [ia ty q_3 6 (fun _ => 0)]]) := hD
  refine lv_aload_n hx hb dX7_init_27 rfl (lv_at hl 0 rfl) ?_
  refine lv_bipush (v := 6) hx hb dX7_init_28 (by decide) ?_
  refine k_newi (n := 6) hx hb (hts (Cond.arrayClass .int) (List.mem_of_getElem? (i := 6) rfl)) hK hP hD hS hA rfl (by decide) (Nat.le_of_ble_eq_true rfl) (Nat.le_of_ble_eq_true rfl) dX7_init_30 (fun q_4 H hP hD hS => ?_)
  rw [fl_push] at hP hD
  have hP : va_P D vwCl (fl [[ob h 6 [.ref q_1, .ref q_2, .ref q_3, .null, .int 0, .int 0]], [za ty q_1 3 (fun _ => 0)], [ia ty q_2 6 (fun _ => 0)], [ia ty q_3 6 (fun _ => 0)], [ia ty q_4 6 (fun _ => 0)]]) H := hP
  have hD : va_D A (fl [[ob h 6 [.ref q_1, .ref q_2, .ref q_3, .null, .int 0, .int 0]], [za ty q_1 3 (fun _ => 0)], [ia ty q_2 6 (fun _ => 0)], [ia ty q_3 6 (fun _ => 0)], [ia ty q_4 6 (fun _ => 0)]]) := hD
  refine va_putF (D := D) (ci := 6) (v := .ref q_4) (ty := .array (.int)) (C := RX7) (T := TX7) (N := 6) hx hb hts i_X7 tyX7 tyX7_ok nmX7 hown hK hP hD hS 0 rfl rfl 3 (by decide) (hts (Cond.fieldLink RX7 22 "BrownClock$Tampers" "rowDomain" "[I") (List.mem_of_getElem? (i := 9) rfl)) (fun _ h9 => h9) rfl hin rfl (by decide +kernel) rfl rfl (Nat.le_of_ble_eq_true rfl) dX7_init_32 (fun H locs hP hD hS => ?_)
  have hP : va_P D vwCl (fl [[ob h 6 [.ref q_1, .ref q_2, .ref q_3, .ref q_4, .int 0, .int 0]], [za ty q_1 3 (fun _ => 0)], [ia ty q_2 6 (fun _ => 0)], [ia ty q_3 6 (fun _ => 0)], [ia ty q_4 6 (fun _ => 0)]]) H := hP
  have hD : va_D A (fl [[ob h 6 [.ref q_1, .ref q_2, .ref q_3, .ref q_4, .int 0, .int 0]], [za ty q_1 3 (fun _ => 0)], [ia ty q_2 6 (fun _ => 0)], [ia ty q_3 6 (fun _ => 0)], [ia ty q_4 6 (fun _ => 0)]]) := hD
  have hP : va_P D vwCl (fl [[ob h 6 [.ref q_1, .ref q_2, .ref q_3, .ref q_4, .int 0, .int 0]], [za ty q_1 3 (fun _ => 0)], [ia ty q_2 6 (fun _ => 0)], [ia ty q_3 6 (fun _ => 0)], [ia ty q_4 6 (fun _ => 0)]]) H := hP
  have hD : va_D A (fl [[ob h 6 [.ref q_1, .ref q_2, .ref q_3, .ref q_4, .int 0, .int 0]], [za ty q_1 3 (fun _ => 0)], [ia ty q_2 6 (fun _ => 0)], [ia ty q_3 6 (fun _ => 0)], [ia ty q_4 6 (fun _ => 0)]]) := hD
  exact end_v (bs' := (fun (u : Nat × Nat × Nat × Nat) => match u with | (g, a, b, d) => [[ob h 6 [.ref g, .ref a, .ref b, .ref d, .int 0, .int 0]], [za ty g 3 (fun _ => 0)], [ia ty a 6 (fun _ => 0)], [ia ty b 6 (fun _ => 0)], [ia ty d 6 (fun _ => 0)]])) (q_1, q_2, q_3, q_4) hx hb hr hlocks hP hD hS trivial (Nat.le_of_ble_eq_true rfl) (Nat.le_of_ble_eq_true rfl) dX7_init_35
set_option maxHeartbeats 4000000 in
set_option maxRecDepth 100000 in
theorem c_X7_reset (l : Launch) (D : va_G) (ty : Nat → ClassId) (h g a b d : Nat) (w n9 : Int32) (fg fa fb fd : Nat → Int32) : CTv l yX7_reset wsX7_reset ({ frames := 0, cells := 0, slots := 0, locals := 0 }) D ty [.ref h] [[ob h 6 [.ref g, .ref a, .ref b, .ref d, .int w, .int n9]], [za ty g 3 fg], [ia ty a 6 fa], [ia ty b 6 fb], [ia ty d 6 fd]] (fun (_ : Unit) => True) (fun (_ : Unit) => [[ob h 6 [.ref g, .ref a, .ref b, .ref d, .int 0, .int 0]], [za ty g 3 (fun _ => 0)], [ia ty a 6 fa], [ia ty b 6 fb], [ia ty d 6 fd]]) := by
  refine CTv_of cX7_reset 2 none (by decide) rfl (Nat.le_of_ble_eq_true rfl) ?_
  intro p e s m args below meth c A hx hb hr hml hown hlocks hin hts hA hX hK hP hD ls hl
  have hown : s.vm.findClass RX7 = some m.cls := hown
  have hS : va_S A s.heap s.heap [] := va_S.rf
  have i_X7 : ∀ z ∈ wsX70, z ∈ wsX7_reset := fun z h => List.mem_cons_of_mem _ (List.mem_append_right _ h)
  have hl : lv_has ls 2 [(0, .ref h)] := hl
  refine lv_iconst (v := 0) hx hb dX7_reset_0 (by decide) ?_
  refine lv_istore_n (lv' := [(1, .int 0), (0, .ref h)]) hx hb dX7_reset_1 rfl hl (by decide) rfl (fun ls hl => ?_)
  refine lv_iload_n hx hb dX7_reset_2 rfl (lv_at hl 0 rfl) ?_
  refine lv_aload_n hx hb dX7_reset_3 rfl (lv_at hl 1 rfl) ?_
  refine va_get (D := D) (ci := 6) (v := .ref g) (C := RX7) (T := TX7) (N := 6) hx hb hts i_X7 hown hK hP 0 rfl rfl 0 (by decide) (hts (Cond.fieldLink RX7 9 "BrownClock$Tampers" "guarded" "[Z") (List.mem_of_getElem? (i := 1) rfl)) (fun _ h9 => h9) rfl dX7_reset_4 ?_
  refine va_alen hx hb hK hP 1 2 rfl rfl (v := 3) rfl dX7_reset_7 ?_
  refine lv_icmp_ge (tgt := 24) hx hb dX7_reset_8 (by decide) (fun c_1 => ?_) (fun c_1 => ?_)
  · exact absurd c_1 (by decide)
  · skip
    refine lv_aload_n hx hb dX7_reset_11 rfl (lv_at hl 1 rfl) ?_
    refine va_get (D := D) (ci := 6) (v := .ref g) (C := RX7) (T := TX7) (N := 6) hx hb hts i_X7 hown hK hP 0 rfl rfl 0 (by decide) (hts (Cond.fieldLink RX7 9 "BrownClock$Tampers" "guarded" "[Z") (List.mem_of_getElem? (i := 1) rfl)) (fun _ h9 => h9) rfl dX7_reset_12 ?_
    refine lv_iload_n hx hb dX7_reset_15 rfl (lv_at hl 0 rfl) ?_
    refine lv_iconst (v := 0) hx hb dX7_reset_16 (by decide) ?_
    refine k_zast hx hb hK hP hD hS 1 rfl 0 rfl (by decide) (Nat.le_of_ble_eq_true rfl) rfl dX7_reset_17 (fun H locs hP hD hS => ?_)
    have hP : va_P D vwCl (fl [[ob h 6 [.ref g, .ref a, .ref b, .ref d, .int w, .int n9]], [za ty g 3 (upd fg 0 0)], [ia ty a 6 fa], [ia ty b 6 fb], [ia ty d 6 fd]]) H := hP
    have hD : va_D A (fl [[ob h 6 [.ref g, .ref a, .ref b, .ref d, .int w, .int n9]], [za ty g 3 (upd fg 0 0)], [ia ty a 6 fa], [ia ty b 6 fb], [ia ty d 6 fd]]) := hD
    refine lv_iinc (v := 1) (lv' := [(1, .int 1), (0, .ref h)]) hx hb dX7_reset_18 hl (k := 0) rfl (by decide) (by decide) rfl (fun ls hl => ?_)
    refine lv_goto (tgt := 2) hx hb dX7_reset_21 (by decide) ?_
    refine lv_iload_n hx hb dX7_reset_2 rfl (lv_at hl 0 rfl) ?_
    refine lv_aload_n hx hb dX7_reset_3 rfl (lv_at hl 1 rfl) ?_
    refine va_get (D := D) (ci := 6) (v := .ref g) (C := RX7) (T := TX7) (N := 6) hx hb hts i_X7 hown hK hP 0 rfl rfl 0 (by decide) (hts (Cond.fieldLink RX7 9 "BrownClock$Tampers" "guarded" "[Z") (List.mem_of_getElem? (i := 1) rfl)) (fun _ h9 => h9) rfl dX7_reset_4 ?_
    refine va_alen hx hb hK hP 1 2 rfl rfl (v := 3) rfl dX7_reset_7 ?_
    refine lv_icmp_ge (tgt := 24) hx hb dX7_reset_8 (by decide) (fun c_2 => ?_) (fun c_2 => ?_)
    · exact absurd c_2 (by decide)
    · skip
      refine lv_aload_n hx hb dX7_reset_11 rfl (lv_at hl 1 rfl) ?_
      refine va_get (D := D) (ci := 6) (v := .ref g) (C := RX7) (T := TX7) (N := 6) hx hb hts i_X7 hown hK hP 0 rfl rfl 0 (by decide) (hts (Cond.fieldLink RX7 9 "BrownClock$Tampers" "guarded" "[Z") (List.mem_of_getElem? (i := 1) rfl)) (fun _ h9 => h9) rfl dX7_reset_12 ?_
      refine lv_iload_n hx hb dX7_reset_15 rfl (lv_at hl 0 rfl) ?_
      refine lv_iconst (v := 0) hx hb dX7_reset_16 (by decide) ?_
      refine k_zast hx hb hK hP hD hS 1 rfl 1 rfl (by decide) (Nat.le_of_ble_eq_true rfl) rfl dX7_reset_17 (fun H locs hP hD hS => ?_)
      have hP : va_P D vwCl (fl [[ob h 6 [.ref g, .ref a, .ref b, .ref d, .int w, .int n9]], [za ty g 3 (upd (upd fg 0 0) 1 0)], [ia ty a 6 fa], [ia ty b 6 fb], [ia ty d 6 fd]]) H := hP
      have hD : va_D A (fl [[ob h 6 [.ref g, .ref a, .ref b, .ref d, .int w, .int n9]], [za ty g 3 (upd (upd fg 0 0) 1 0)], [ia ty a 6 fa], [ia ty b 6 fb], [ia ty d 6 fd]]) := hD
      refine lv_iinc (v := 2) (lv' := [(1, .int 2), (0, .ref h)]) hx hb dX7_reset_18 hl (k := 0) rfl (by decide) (by decide) rfl (fun ls hl => ?_)
      refine lv_goto (tgt := 2) hx hb dX7_reset_21 (by decide) ?_
      refine lv_iload_n hx hb dX7_reset_2 rfl (lv_at hl 0 rfl) ?_
      refine lv_aload_n hx hb dX7_reset_3 rfl (lv_at hl 1 rfl) ?_
      refine va_get (D := D) (ci := 6) (v := .ref g) (C := RX7) (T := TX7) (N := 6) hx hb hts i_X7 hown hK hP 0 rfl rfl 0 (by decide) (hts (Cond.fieldLink RX7 9 "BrownClock$Tampers" "guarded" "[Z") (List.mem_of_getElem? (i := 1) rfl)) (fun _ h9 => h9) rfl dX7_reset_4 ?_
      refine va_alen hx hb hK hP 1 2 rfl rfl (v := 3) rfl dX7_reset_7 ?_
      refine lv_icmp_ge (tgt := 24) hx hb dX7_reset_8 (by decide) (fun c_3 => ?_) (fun c_3 => ?_)
      · exact absurd c_3 (by decide)
      · skip
        refine lv_aload_n hx hb dX7_reset_11 rfl (lv_at hl 1 rfl) ?_
        refine va_get (D := D) (ci := 6) (v := .ref g) (C := RX7) (T := TX7) (N := 6) hx hb hts i_X7 hown hK hP 0 rfl rfl 0 (by decide) (hts (Cond.fieldLink RX7 9 "BrownClock$Tampers" "guarded" "[Z") (List.mem_of_getElem? (i := 1) rfl)) (fun _ h9 => h9) rfl dX7_reset_12 ?_
        refine lv_iload_n hx hb dX7_reset_15 rfl (lv_at hl 0 rfl) ?_
        refine lv_iconst (v := 0) hx hb dX7_reset_16 (by decide) ?_
        refine k_zast hx hb hK hP hD hS 1 rfl 2 rfl (by decide) (Nat.le_of_ble_eq_true rfl) rfl dX7_reset_17 (fun H locs hP hD hS => ?_)
        have hP : va_P D vwCl (fl [[ob h 6 [.ref g, .ref a, .ref b, .ref d, .int w, .int n9]], [za ty g 3 (upd (upd (upd fg 0 0) 1 0) 2 0)], [ia ty a 6 fa], [ia ty b 6 fb], [ia ty d 6 fd]]) H := hP
        have hD : va_D A (fl [[ob h 6 [.ref g, .ref a, .ref b, .ref d, .int w, .int n9]], [za ty g 3 (upd (upd (upd fg 0 0) 1 0) 2 0)], [ia ty a 6 fa], [ia ty b 6 fb], [ia ty d 6 fd]]) := hD
        refine lv_iinc (v := 3) (lv' := [(1, .int 3), (0, .ref h)]) hx hb dX7_reset_18 hl (k := 0) rfl (by decide) (by decide) rfl (fun ls hl => ?_)
        refine lv_goto (tgt := 2) hx hb dX7_reset_21 (by decide) ?_
        refine lv_iload_n hx hb dX7_reset_2 rfl (lv_at hl 0 rfl) ?_
        refine lv_aload_n hx hb dX7_reset_3 rfl (lv_at hl 1 rfl) ?_
        refine va_get (D := D) (ci := 6) (v := .ref g) (C := RX7) (T := TX7) (N := 6) hx hb hts i_X7 hown hK hP 0 rfl rfl 0 (by decide) (hts (Cond.fieldLink RX7 9 "BrownClock$Tampers" "guarded" "[Z") (List.mem_of_getElem? (i := 1) rfl)) (fun _ h9 => h9) rfl dX7_reset_4 ?_
        refine va_alen hx hb hK hP 1 2 rfl rfl (v := 3) rfl dX7_reset_7 ?_
        refine lv_icmp_ge (tgt := 24) hx hb dX7_reset_8 (by decide) (fun c_4 => ?_) (fun c_4 => ?_)
        · skip
          refine lv_aload_n hx hb dX7_reset_24 rfl (lv_at hl 1 rfl) ?_
          refine lv_iconst (v := 0) hx hb dX7_reset_25 (by decide) ?_
          refine va_put (D := D) (ci := 6) (v := .int 0) (ty := .int) (C := RX7) (T := TX7) (N := 6) hx hb hts i_X7 tyX7 tyX7_ok nmX7 hown hK hP hD hS 0 rfl rfl 4 (by decide) (hts (Cond.fieldLink RX7 25 "BrownClock$Tampers" "rows" "I") (List.mem_of_getElem? (i := 2) rfl)) (fun _ h9 => h9) rfl (by decide +kernel) rfl rfl (Nat.le_of_ble_eq_true rfl) dX7_reset_26 (fun H locs hP hD hS => ?_)
          have hP : va_P D vwCl (fl [[ob h 6 [.ref g, .ref a, .ref b, .ref d, .int 0, .int n9]], [za ty g 3 (upd (upd (upd fg 0 0) 1 0) 2 0)], [ia ty a 6 fa], [ia ty b 6 fb], [ia ty d 6 fd]]) H := hP
          have hD : va_D A (fl [[ob h 6 [.ref g, .ref a, .ref b, .ref d, .int 0, .int n9]], [za ty g 3 (upd (upd (upd fg 0 0) 1 0) 2 0)], [ia ty a 6 fa], [ia ty b 6 fb], [ia ty d 6 fd]]) := hD
          refine lv_aload_n hx hb dX7_reset_29 rfl (lv_at hl 1 rfl) ?_
          refine lv_iconst (v := 0) hx hb dX7_reset_30 (by decide) ?_
          refine va_put (D := D) (ci := 6) (v := .int 0) (ty := .int) (C := RX7) (T := TX7) (N := 6) hx hb hts i_X7 tyX7 tyX7_ok nmX7 hown hK hP hD hS 0 rfl rfl 5 (by decide) (hts (Cond.fieldLink RX7 29 "BrownClock$Tampers" "counted" "I") (List.mem_of_getElem? (i := 3) rfl)) (fun _ h9 => h9) rfl (by decide +kernel) rfl rfl (Nat.le_of_ble_eq_true rfl) dX7_reset_31 (fun H locs hP hD hS => ?_)
          have hP : va_P D vwCl (fl [[ob h 6 [.ref g, .ref a, .ref b, .ref d, .int 0, .int 0]], [za ty g 3 (upd (upd (upd fg 0 0) 1 0) 2 0)], [ia ty a 6 fa], [ia ty b 6 fb], [ia ty d 6 fd]]) H := hP
          have hD : va_D A (fl [[ob h 6 [.ref g, .ref a, .ref b, .ref d, .int 0, .int 0]], [za ty g 3 (upd (upd (upd fg 0 0) 1 0) 2 0)], [ia ty a 6 fa], [ia ty b 6 fb], [ia ty d 6 fd]]) := hD
          have hP : va_P D vwCl (fl [[ob h 6 [.ref g, .ref a, .ref b, .ref d, .int 0, .int 0]], [za ty g 3 (fun _ => 0)], [ia ty a 6 fa], [ia ty b 6 fb], [ia ty d 6 fd]]) H := by
            obtain ⟨z0, hP⟩ := P_cons.mp hP
            obtain ⟨z1, hP⟩ := P_cons.mp hP
            obtain ⟨z2, hP⟩ := P_cons.mp hP
            obtain ⟨z3, hP⟩ := P_cons.mp hP
            obtain ⟨z4, hP⟩ := P_cons.mp hP
            exact P_cons.mpr ⟨z0, P_cons.mpr ⟨at_za (fun k hk => by match k, hk with | 0, _ => rfl | 1, _ => rfl | 2, _ => rfl) z1, P_cons.mpr ⟨z2, P_cons.mpr ⟨z3, P_cons.mpr ⟨z4, hP⟩⟩⟩⟩⟩
          have hD : va_D A (fl [[ob h 6 [.ref g, .ref a, .ref b, .ref d, .int 0, .int 0]], [za ty g 3 (fun _ => 0)], [ia ty a 6 fa], [ia ty b 6 fb], [ia ty d 6 fd]]) := (D_same2 hD [h, g, a, b, d] rfl rfl)
          exact end_v (bs' := (fun (_ : Unit) => [[ob h 6 [.ref g, .ref a, .ref b, .ref d, .int 0, .int 0]], [za ty g 3 (fun _ => 0)], [ia ty a 6 fa], [ia ty b 6 fb], [ia ty d 6 fd]])) () hx hb hr hlocks hP hD hS trivial (Nat.le_of_ble_eq_true rfl) (Nat.le_of_ble_eq_true rfl) dX7_reset_34
        · exact absurd (by decide) c_4
set_option maxHeartbeats 4000000 in
set_option maxRecDepth 100000 in
theorem c_X7_copyFrom (l : Launch) (D : va_G) (ty : Nat → ClassId) (h g a b d : Nat) (w n9 : Int32) (fg fa fb fd : Nat → Int32) (h2 g2 a2 b2 d2 : Nat) (w2 n2 : Int32) (fg2 fa2 fb2 fd2 : Nat → Int32) : CTv l yX7_copyFrom wsX7_copyFrom ({ frames := 1, cells := 0, slots := 0, locals := 32 }) D ty [.ref h, .ref h2] [[ob h 6 [.ref g, .ref a, .ref b, .ref d, .int w, .int n9]], [za ty g 3 fg], [ia ty a 6 fa], [ia ty b 6 fb], [ia ty d 6 fd], [ob h2 6 [.ref g2, .ref a2, .ref b2, .ref d2, .int w2, .int n2]], [za ty g2 3 (fun k => bz (fg2 k))], [ia ty a2 6 fa2], [ia ty b2 6 fb2], [ia ty d2 6 fd2]] (fun (_ : Unit) => True) (fun (_ : Unit) => [[ob h 6 [.ref g, .ref a, .ref b, .ref d, .int w2, .int n2]], [za ty g 3 (fun k => bz (fg2 k))], [ia ty a 6 fa2], [ia ty b 6 fb2], [ia ty d 6 fd2], [ob h2 6 [.ref g2, .ref a2, .ref b2, .ref d2, .int w2, .int n2]], [za ty g2 3 (fun k => bz (fg2 k))], [ia ty a2 6 fa2], [ia ty b2 6 fb2], [ia ty d2 6 fd2]]) := by
  refine CTv_of cX7_copyFrom 2 none (by decide) rfl (Nat.le_of_ble_eq_true rfl) ?_
  intro p e s m args below meth c A hx hb hr hml hown hlocks hin hts hA hX hK hP hD ls hl
  have hown : s.vm.findClass RX7 = some m.cls := hown
  have hS : va_S A s.heap s.heap [] := va_S.rf
  have i_X7 : ∀ z ∈ wsX70, z ∈ wsX7_copyFrom := fun z h => List.mem_cons_of_mem _ (List.mem_append_right _ h)
  have hl : lv_has ls 2 [(0, .ref h), (1, .ref h2)] := hl
  refine lv_aload_n hx hb dX7_copyFrom_0 rfl (lv_at hl 1 rfl) ?_
  refine va_get (D := D) (ci := 6) (v := .ref g2) (C := RX7) (T := TX7) (N := 6) hx hb hts i_X7 hown hK hP 5 rfl rfl 0 (by decide) (hts (Cond.fieldLink RX7 9 "BrownClock$Tampers" "guarded" "[Z") (List.mem_of_getElem? (i := 1) rfl)) (fun _ h9 => h9) rfl dX7_copyFrom_1 ?_
  refine lv_iconst (v := 0) hx hb dX7_copyFrom_4 (by decide) ?_
  refine lv_aload_n hx hb dX7_copyFrom_5 rfl (lv_at hl 0 rfl) ?_
  refine va_get (D := D) (ci := 6) (v := .ref g) (C := RX7) (T := TX7) (N := 6) hx hb hts i_X7 hown hK hP 0 rfl rfl 0 (by decide) (hts (Cond.fieldLink RX7 9 "BrownClock$Tampers" "guarded" "[Z") (List.mem_of_getElem? (i := 1) rfl)) (fun _ h9 => h9) rfl dX7_copyFrom_6 ?_
  refine lv_iconst (v := 0) hx hb dX7_copyFrom_9 (by decide) ?_
  refine lv_iconst (v := 3) hx hb dX7_copyFrom_10 (by decide) ?_
  refine k_copyz hx hb (hml.trans hl.1.symm) hown (hts (Cond.methodLink RX7 32 arraycopyName) (List.mem_of_getElem? (i := 2) rfl)) (hts (Cond.native arraycopyName) (List.mem_of_getElem? (i := 3) rfl)) (hts (Cond.static arraycopyName) (List.mem_of_getElem? (i := 4) rfl)) (hts (Cond.initialized "java/lang/System") (List.mem_of_getElem? (i := 5) rfl)) hK hP hD hS 6 1 rfl rfl (n := 3) rfl (by decide) (fun i hi => bz_fit _) (Nat.le_of_ble_eq_true rfl) (Nat.le_of_ble_eq_true rfl) dX7_copyFrom_11 (fun H locs hP hD hS => ?_)
  have hP : va_P D vwCl (fl [[ob h 6 [.ref g, .ref a, .ref b, .ref d, .int w, .int n9]], [za ty g 3 (fun k => bz (fg2 k))], [ia ty a 6 fa], [ia ty b 6 fb], [ia ty d 6 fd], [ob h2 6 [.ref g2, .ref a2, .ref b2, .ref d2, .int w2, .int n2]], [za ty g2 3 (fun k => bz (fg2 k))], [ia ty a2 6 fa2], [ia ty b2 6 fb2], [ia ty d2 6 fd2]]) H := hP
  have hD : va_D A (fl [[ob h 6 [.ref g, .ref a, .ref b, .ref d, .int w, .int n9]], [za ty g 3 (fun k => bz (fg2 k))], [ia ty a 6 fa], [ia ty b 6 fb], [ia ty d 6 fd], [ob h2 6 [.ref g2, .ref a2, .ref b2, .ref d2, .int w2, .int n2]], [za ty g2 3 (fun k => bz (fg2 k))], [ia ty a2 6 fa2], [ia ty b2 6 fb2], [ia ty d2 6 fd2]]) := hD
  refine lv_aload_n hx hb dX7_copyFrom_14 rfl (lv_at hl 1 rfl) ?_
  refine va_get (D := D) (ci := 6) (v := .ref a2) (C := RX7) (T := TX7) (N := 6) hx hb hts i_X7 hown hK hP 5 rfl rfl 1 (by decide) (hts (Cond.fieldLink RX7 15 "BrownClock$Tampers" "rowPin" "[I") (List.mem_of_getElem? (i := 6) rfl)) (fun _ h9 => h9) rfl dX7_copyFrom_15 ?_
  refine lv_iconst (v := 0) hx hb dX7_copyFrom_18 (by decide) ?_
  refine lv_aload_n hx hb dX7_copyFrom_19 rfl (lv_at hl 0 rfl) ?_
  refine va_get (D := D) (ci := 6) (v := .ref a) (C := RX7) (T := TX7) (N := 6) hx hb hts i_X7 hown hK hP 0 rfl rfl 1 (by decide) (hts (Cond.fieldLink RX7 15 "BrownClock$Tampers" "rowPin" "[I") (List.mem_of_getElem? (i := 6) rfl)) (fun _ h9 => h9) rfl dX7_copyFrom_20 ?_
  refine lv_iconst (v := 0) hx hb dX7_copyFrom_23 (by decide) ?_
  refine lv_bipush (v := 6) hx hb dX7_copyFrom_24 (by decide) ?_
  refine k_copyi hx hb (hml.trans hl.1.symm) hown (hts (Cond.methodLink RX7 32 arraycopyName) (List.mem_of_getElem? (i := 2) rfl)) (hts (Cond.native arraycopyName) (List.mem_of_getElem? (i := 3) rfl)) (hts (Cond.static arraycopyName) (List.mem_of_getElem? (i := 4) rfl)) (hts (Cond.initialized "java/lang/System") (List.mem_of_getElem? (i := 5) rfl)) hK hP hD hS 7 2 rfl rfl (n := 6) rfl (by decide) (Nat.le_of_ble_eq_true rfl) (Nat.le_of_ble_eq_true rfl) dX7_copyFrom_26 (fun H locs hP hD hS => ?_)
  have hP : va_P D vwCl (fl [[ob h 6 [.ref g, .ref a, .ref b, .ref d, .int w, .int n9]], [za ty g 3 (fun k => bz (fg2 k))], [ia ty a 6 fa2], [ia ty b 6 fb], [ia ty d 6 fd], [ob h2 6 [.ref g2, .ref a2, .ref b2, .ref d2, .int w2, .int n2]], [za ty g2 3 (fun k => bz (fg2 k))], [ia ty a2 6 fa2], [ia ty b2 6 fb2], [ia ty d2 6 fd2]]) H := hP
  have hD : va_D A (fl [[ob h 6 [.ref g, .ref a, .ref b, .ref d, .int w, .int n9]], [za ty g 3 (fun k => bz (fg2 k))], [ia ty a 6 fa2], [ia ty b 6 fb], [ia ty d 6 fd], [ob h2 6 [.ref g2, .ref a2, .ref b2, .ref d2, .int w2, .int n2]], [za ty g2 3 (fun k => bz (fg2 k))], [ia ty a2 6 fa2], [ia ty b2 6 fb2], [ia ty d2 6 fd2]]) := hD
  refine lv_aload_n hx hb dX7_copyFrom_29 rfl (lv_at hl 1 rfl) ?_
  refine va_get (D := D) (ci := 6) (v := .ref b2) (C := RX7) (T := TX7) (N := 6) hx hb hts i_X7 hown hK hP 5 rfl rfl 2 (by decide) (hts (Cond.fieldLink RX7 19 "BrownClock$Tampers" "rowSeconds" "[I") (List.mem_of_getElem? (i := 7) rfl)) (fun _ h9 => h9) rfl dX7_copyFrom_30 ?_
  refine lv_iconst (v := 0) hx hb dX7_copyFrom_33 (by decide) ?_
  refine lv_aload_n hx hb dX7_copyFrom_34 rfl (lv_at hl 0 rfl) ?_
  refine va_get (D := D) (ci := 6) (v := .ref b) (C := RX7) (T := TX7) (N := 6) hx hb hts i_X7 hown hK hP 0 rfl rfl 2 (by decide) (hts (Cond.fieldLink RX7 19 "BrownClock$Tampers" "rowSeconds" "[I") (List.mem_of_getElem? (i := 7) rfl)) (fun _ h9 => h9) rfl dX7_copyFrom_35 ?_
  refine lv_iconst (v := 0) hx hb dX7_copyFrom_38 (by decide) ?_
  refine lv_bipush (v := 6) hx hb dX7_copyFrom_39 (by decide) ?_
  refine k_copyi hx hb (hml.trans hl.1.symm) hown (hts (Cond.methodLink RX7 32 arraycopyName) (List.mem_of_getElem? (i := 2) rfl)) (hts (Cond.native arraycopyName) (List.mem_of_getElem? (i := 3) rfl)) (hts (Cond.static arraycopyName) (List.mem_of_getElem? (i := 4) rfl)) (hts (Cond.initialized "java/lang/System") (List.mem_of_getElem? (i := 5) rfl)) hK hP hD hS 8 3 rfl rfl (n := 6) rfl (by decide) (Nat.le_of_ble_eq_true rfl) (Nat.le_of_ble_eq_true rfl) dX7_copyFrom_41 (fun H locs hP hD hS => ?_)
  have hP : va_P D vwCl (fl [[ob h 6 [.ref g, .ref a, .ref b, .ref d, .int w, .int n9]], [za ty g 3 (fun k => bz (fg2 k))], [ia ty a 6 fa2], [ia ty b 6 fb2], [ia ty d 6 fd], [ob h2 6 [.ref g2, .ref a2, .ref b2, .ref d2, .int w2, .int n2]], [za ty g2 3 (fun k => bz (fg2 k))], [ia ty a2 6 fa2], [ia ty b2 6 fb2], [ia ty d2 6 fd2]]) H := hP
  have hD : va_D A (fl [[ob h 6 [.ref g, .ref a, .ref b, .ref d, .int w, .int n9]], [za ty g 3 (fun k => bz (fg2 k))], [ia ty a 6 fa2], [ia ty b 6 fb2], [ia ty d 6 fd], [ob h2 6 [.ref g2, .ref a2, .ref b2, .ref d2, .int w2, .int n2]], [za ty g2 3 (fun k => bz (fg2 k))], [ia ty a2 6 fa2], [ia ty b2 6 fb2], [ia ty d2 6 fd2]]) := hD
  refine lv_aload_n hx hb dX7_copyFrom_44 rfl (lv_at hl 1 rfl) ?_
  refine va_get (D := D) (ci := 6) (v := .ref d2) (C := RX7) (T := TX7) (N := 6) hx hb hts i_X7 hown hK hP 5 rfl rfl 3 (by decide) (hts (Cond.fieldLink RX7 22 "BrownClock$Tampers" "rowDomain" "[I") (List.mem_of_getElem? (i := 8) rfl)) (fun _ h9 => h9) rfl dX7_copyFrom_45 ?_
  refine lv_iconst (v := 0) hx hb dX7_copyFrom_48 (by decide) ?_
  refine lv_aload_n hx hb dX7_copyFrom_49 rfl (lv_at hl 0 rfl) ?_
  refine va_get (D := D) (ci := 6) (v := .ref d) (C := RX7) (T := TX7) (N := 6) hx hb hts i_X7 hown hK hP 0 rfl rfl 3 (by decide) (hts (Cond.fieldLink RX7 22 "BrownClock$Tampers" "rowDomain" "[I") (List.mem_of_getElem? (i := 8) rfl)) (fun _ h9 => h9) rfl dX7_copyFrom_50 ?_
  refine lv_iconst (v := 0) hx hb dX7_copyFrom_53 (by decide) ?_
  refine lv_bipush (v := 6) hx hb dX7_copyFrom_54 (by decide) ?_
  refine k_copyi hx hb (hml.trans hl.1.symm) hown (hts (Cond.methodLink RX7 32 arraycopyName) (List.mem_of_getElem? (i := 2) rfl)) (hts (Cond.native arraycopyName) (List.mem_of_getElem? (i := 3) rfl)) (hts (Cond.static arraycopyName) (List.mem_of_getElem? (i := 4) rfl)) (hts (Cond.initialized "java/lang/System") (List.mem_of_getElem? (i := 5) rfl)) hK hP hD hS 9 4 rfl rfl (n := 6) rfl (by decide) (Nat.le_of_ble_eq_true rfl) (Nat.le_of_ble_eq_true rfl) dX7_copyFrom_56 (fun H locs hP hD hS => ?_)
  have hP : va_P D vwCl (fl [[ob h 6 [.ref g, .ref a, .ref b, .ref d, .int w, .int n9]], [za ty g 3 (fun k => bz (fg2 k))], [ia ty a 6 fa2], [ia ty b 6 fb2], [ia ty d 6 fd2], [ob h2 6 [.ref g2, .ref a2, .ref b2, .ref d2, .int w2, .int n2]], [za ty g2 3 (fun k => bz (fg2 k))], [ia ty a2 6 fa2], [ia ty b2 6 fb2], [ia ty d2 6 fd2]]) H := hP
  have hD : va_D A (fl [[ob h 6 [.ref g, .ref a, .ref b, .ref d, .int w, .int n9]], [za ty g 3 (fun k => bz (fg2 k))], [ia ty a 6 fa2], [ia ty b 6 fb2], [ia ty d 6 fd2], [ob h2 6 [.ref g2, .ref a2, .ref b2, .ref d2, .int w2, .int n2]], [za ty g2 3 (fun k => bz (fg2 k))], [ia ty a2 6 fa2], [ia ty b2 6 fb2], [ia ty d2 6 fd2]]) := hD
  refine lv_aload_n hx hb dX7_copyFrom_59 rfl (lv_at hl 0 rfl) ?_
  refine lv_aload_n hx hb dX7_copyFrom_60 rfl (lv_at hl 1 rfl) ?_
  refine va_get (D := D) (ci := 6) (v := .int w2) (C := RX7) (T := TX7) (N := 6) hx hb hts i_X7 hown hK hP 5 rfl rfl 4 (by decide) (hts (Cond.fieldLink RX7 25 "BrownClock$Tampers" "rows" "I") (List.mem_of_getElem? (i := 9) rfl)) (fun _ h9 => h9) rfl dX7_copyFrom_61 ?_
  refine va_put (D := D) (ci := 6) (v := .int w2) (ty := .int) (C := RX7) (T := TX7) (N := 6) hx hb hts i_X7 tyX7 tyX7_ok nmX7 hown hK hP hD hS 0 rfl rfl 4 (by decide) (hts (Cond.fieldLink RX7 25 "BrownClock$Tampers" "rows" "I") (List.mem_of_getElem? (i := 9) rfl)) (fun _ h9 => h9) rfl (by decide +kernel) rfl rfl (Nat.le_of_ble_eq_true rfl) dX7_copyFrom_64 (fun H locs hP hD hS => ?_)
  have hP : va_P D vwCl (fl [[ob h 6 [.ref g, .ref a, .ref b, .ref d, .int w2, .int n9]], [za ty g 3 (fun k => bz (fg2 k))], [ia ty a 6 fa2], [ia ty b 6 fb2], [ia ty d 6 fd2], [ob h2 6 [.ref g2, .ref a2, .ref b2, .ref d2, .int w2, .int n2]], [za ty g2 3 (fun k => bz (fg2 k))], [ia ty a2 6 fa2], [ia ty b2 6 fb2], [ia ty d2 6 fd2]]) H := hP
  have hD : va_D A (fl [[ob h 6 [.ref g, .ref a, .ref b, .ref d, .int w2, .int n9]], [za ty g 3 (fun k => bz (fg2 k))], [ia ty a 6 fa2], [ia ty b 6 fb2], [ia ty d 6 fd2], [ob h2 6 [.ref g2, .ref a2, .ref b2, .ref d2, .int w2, .int n2]], [za ty g2 3 (fun k => bz (fg2 k))], [ia ty a2 6 fa2], [ia ty b2 6 fb2], [ia ty d2 6 fd2]]) := hD
  refine lv_aload_n hx hb dX7_copyFrom_67 rfl (lv_at hl 0 rfl) ?_
  refine lv_aload_n hx hb dX7_copyFrom_68 rfl (lv_at hl 1 rfl) ?_
  refine va_get (D := D) (ci := 6) (v := .int n2) (C := RX7) (T := TX7) (N := 6) hx hb hts i_X7 hown hK hP 5 rfl rfl 5 (by decide) (hts (Cond.fieldLink RX7 29 "BrownClock$Tampers" "counted" "I") (List.mem_of_getElem? (i := 10) rfl)) (fun _ h9 => h9) rfl dX7_copyFrom_69 ?_
  refine va_put (D := D) (ci := 6) (v := .int n2) (ty := .int) (C := RX7) (T := TX7) (N := 6) hx hb hts i_X7 tyX7 tyX7_ok nmX7 hown hK hP hD hS 0 rfl rfl 5 (by decide) (hts (Cond.fieldLink RX7 29 "BrownClock$Tampers" "counted" "I") (List.mem_of_getElem? (i := 10) rfl)) (fun _ h9 => h9) rfl (by decide +kernel) rfl rfl (Nat.le_of_ble_eq_true rfl) dX7_copyFrom_72 (fun H locs hP hD hS => ?_)
  have hP : va_P D vwCl (fl [[ob h 6 [.ref g, .ref a, .ref b, .ref d, .int w2, .int n2]], [za ty g 3 (fun k => bz (fg2 k))], [ia ty a 6 fa2], [ia ty b 6 fb2], [ia ty d 6 fd2], [ob h2 6 [.ref g2, .ref a2, .ref b2, .ref d2, .int w2, .int n2]], [za ty g2 3 (fun k => bz (fg2 k))], [ia ty a2 6 fa2], [ia ty b2 6 fb2], [ia ty d2 6 fd2]]) H := hP
  have hD : va_D A (fl [[ob h 6 [.ref g, .ref a, .ref b, .ref d, .int w2, .int n2]], [za ty g 3 (fun k => bz (fg2 k))], [ia ty a 6 fa2], [ia ty b 6 fb2], [ia ty d 6 fd2], [ob h2 6 [.ref g2, .ref a2, .ref b2, .ref d2, .int w2, .int n2]], [za ty g2 3 (fun k => bz (fg2 k))], [ia ty a2 6 fa2], [ia ty b2 6 fb2], [ia ty d2 6 fd2]]) := hD
  have hP : va_P D vwCl (fl [[ob h 6 [.ref g, .ref a, .ref b, .ref d, .int w2, .int n2]], [za ty g 3 (fun k => bz (fg2 k))], [ia ty a 6 fa2], [ia ty b 6 fb2], [ia ty d 6 fd2], [ob h2 6 [.ref g2, .ref a2, .ref b2, .ref d2, .int w2, .int n2]], [za ty g2 3 (fun k => bz (fg2 k))], [ia ty a2 6 fa2], [ia ty b2 6 fb2], [ia ty d2 6 fd2]]) H := hP
  have hD : va_D A (fl [[ob h 6 [.ref g, .ref a, .ref b, .ref d, .int w2, .int n2]], [za ty g 3 (fun k => bz (fg2 k))], [ia ty a 6 fa2], [ia ty b 6 fb2], [ia ty d 6 fd2], [ob h2 6 [.ref g2, .ref a2, .ref b2, .ref d2, .int w2, .int n2]], [za ty g2 3 (fun k => bz (fg2 k))], [ia ty a2 6 fa2], [ia ty b2 6 fb2], [ia ty d2 6 fd2]]) := hD
  exact end_v (bs' := (fun (_ : Unit) => [[ob h 6 [.ref g, .ref a, .ref b, .ref d, .int w2, .int n2]], [za ty g 3 (fun k => bz (fg2 k))], [ia ty a 6 fa2], [ia ty b 6 fb2], [ia ty d 6 fd2], [ob h2 6 [.ref g2, .ref a2, .ref b2, .ref d2, .int w2, .int n2]], [za ty g2 3 (fun k => bz (fg2 k))], [ia ty a2 6 fa2], [ia ty b2 6 fb2], [ia ty d2 6 fd2]])) () hx hb hr hlocks hP hD hS trivial (Nat.le_of_ble_eq_true rfl) (Nat.le_of_ble_eq_true rfl) dX7_copyFrom_75
set_option maxHeartbeats 4000000 in
set_option maxRecDepth 100000 in
theorem c_X7_guardedPins (l : Launch) (D : va_G) (ty : Nat → ClassId) (h g a b d : Nat) (w n9 : Int32) (fg fa fb fd : Nat → Int32) : CTi l yX7_guardedPins wsX7_guardedPins ({ frames := 0, cells := 0, slots := 0, locals := 0 }) D ty [.ref h] [[ob h 6 [.ref g, .ref a, .ref b, .ref d, .int w, .int n9]], [za ty g 3 fg], [ia ty a 6 fa], [ia ty b 6 fb], [ia ty d 6 fd]] (fun (RET : Int32) (_ : Unit) => RET = (gpn (fg 0) (fg 1) (fg 2))) (fun (_ : Unit) => [[ob h 6 [.ref g, .ref a, .ref b, .ref d, .int w, .int n9]], [za ty g 3 fg], [ia ty a 6 fa], [ia ty b 6 fb], [ia ty d 6 fd]]) := by
  refine CTi_of cX7_guardedPins 3 (some .int) (by decide) rfl (Nat.le_of_ble_eq_true rfl) ?_
  intro p e s m args below meth c A hx hb hr hml hown hlocks hin hts hA hX hK hP hD ls hl
  have hown : s.vm.findClass RX7 = some m.cls := hown
  have hS : va_S A s.heap s.heap [] := va_S.rf
  have i_X7 : ∀ z ∈ wsX70, z ∈ wsX7_guardedPins := fun z h => List.mem_cons_of_mem _ (List.mem_append_right _ h)
  have hl : lv_has ls 3 [(0, .ref h)] := hl
  refine lv_iconst (v := 0) hx hb dX7_guardedPins_0 (by decide) ?_
  refine lv_istore_n (lv' := [(1, .int 0), (0, .ref h)]) hx hb dX7_guardedPins_1 rfl hl (by decide) rfl (fun ls hl => ?_)
  refine lv_iconst (v := 0) hx hb dX7_guardedPins_2 (by decide) ?_
  refine lv_istore_n (lv' := [(2, .int 0), (1, .int 0), (0, .ref h)]) hx hb dX7_guardedPins_3 rfl hl (by decide) rfl (fun ls hl => ?_)
  refine lv_iload_n hx hb dX7_guardedPins_4 rfl (lv_at hl 0 rfl) ?_
  refine lv_aload_n hx hb dX7_guardedPins_5 rfl (lv_at hl 2 rfl) ?_
  refine va_get (D := D) (ci := 6) (v := .ref g) (C := RX7) (T := TX7) (N := 6) hx hb hts i_X7 hown hK hP 0 rfl rfl 0 (by decide) (hts (Cond.fieldLink RX7 9 "BrownClock$Tampers" "guarded" "[Z") (List.mem_of_getElem? (i := 1) rfl)) (fun _ h9 => h9) rfl dX7_guardedPins_6 ?_
  refine va_alen hx hb hK hP 1 2 rfl rfl (v := 3) rfl dX7_guardedPins_9 ?_
  refine lv_icmp_ge (tgt := 31) hx hb dX7_guardedPins_10 (by decide) (fun c_1 => ?_) (fun c_1 => ?_)
  · exact absurd c_1 (by decide)
  · skip
    refine lv_aload_n hx hb dX7_guardedPins_13 rfl (lv_at hl 2 rfl) ?_
    refine va_get (D := D) (ci := 6) (v := .ref g) (C := RX7) (T := TX7) (N := 6) hx hb hts i_X7 hown hK hP 0 rfl rfl 0 (by decide) (hts (Cond.fieldLink RX7 9 "BrownClock$Tampers" "guarded" "[Z") (List.mem_of_getElem? (i := 1) rfl)) (fun _ h9 => h9) rfl dX7_guardedPins_14 ?_
    refine lv_iload_n hx hb dX7_guardedPins_17 rfl (lv_at hl 0 rfl) ?_
    refine k_zald hx hb hK hP 1 rfl 0 rfl (by decide) (Nat.le_of_ble_eq_true rfl) (v := fg 0) rfl dX7_guardedPins_18 ?_
    refine lv_if_eq (tgt := 25) hx hb dX7_guardedPins_19 (by decide) (fun c_2 => ?_) (fun c_2 => ?_)
    · skip
      refine lv_iinc (v := 1) (lv' := [(2, .int 1), (1, .int 0), (0, .ref h)]) hx hb dX7_guardedPins_25 hl (k := 0) rfl (by decide) (by decide) rfl (fun ls hl => ?_)
      refine lv_goto (tgt := 4) hx hb dX7_guardedPins_28 (by decide) ?_
      refine lv_iload_n hx hb dX7_guardedPins_4 rfl (lv_at hl 0 rfl) ?_
      refine lv_aload_n hx hb dX7_guardedPins_5 rfl (lv_at hl 2 rfl) ?_
      refine va_get (D := D) (ci := 6) (v := .ref g) (C := RX7) (T := TX7) (N := 6) hx hb hts i_X7 hown hK hP 0 rfl rfl 0 (by decide) (hts (Cond.fieldLink RX7 9 "BrownClock$Tampers" "guarded" "[Z") (List.mem_of_getElem? (i := 1) rfl)) (fun _ h9 => h9) rfl dX7_guardedPins_6 ?_
      refine va_alen hx hb hK hP 1 2 rfl rfl (v := 3) rfl dX7_guardedPins_9 ?_
      refine lv_icmp_ge (tgt := 31) hx hb dX7_guardedPins_10 (by decide) (fun c_3 => ?_) (fun c_3 => ?_)
      · exact absurd c_3 (by decide)
      · skip
        refine lv_aload_n hx hb dX7_guardedPins_13 rfl (lv_at hl 2 rfl) ?_
        refine va_get (D := D) (ci := 6) (v := .ref g) (C := RX7) (T := TX7) (N := 6) hx hb hts i_X7 hown hK hP 0 rfl rfl 0 (by decide) (hts (Cond.fieldLink RX7 9 "BrownClock$Tampers" "guarded" "[Z") (List.mem_of_getElem? (i := 1) rfl)) (fun _ h9 => h9) rfl dX7_guardedPins_14 ?_
        refine lv_iload_n hx hb dX7_guardedPins_17 rfl (lv_at hl 0 rfl) ?_
        refine k_zald hx hb hK hP 1 rfl 1 rfl (by decide) (Nat.le_of_ble_eq_true rfl) (v := fg 1) rfl dX7_guardedPins_18 ?_
        refine lv_if_eq (tgt := 25) hx hb dX7_guardedPins_19 (by decide) (fun c_4 => ?_) (fun c_4 => ?_)
        · skip
          refine lv_iinc (v := 2) (lv' := [(2, .int 2), (1, .int 0), (0, .ref h)]) hx hb dX7_guardedPins_25 hl (k := 0) rfl (by decide) (by decide) rfl (fun ls hl => ?_)
          refine lv_goto (tgt := 4) hx hb dX7_guardedPins_28 (by decide) ?_
          refine lv_iload_n hx hb dX7_guardedPins_4 rfl (lv_at hl 0 rfl) ?_
          refine lv_aload_n hx hb dX7_guardedPins_5 rfl (lv_at hl 2 rfl) ?_
          refine va_get (D := D) (ci := 6) (v := .ref g) (C := RX7) (T := TX7) (N := 6) hx hb hts i_X7 hown hK hP 0 rfl rfl 0 (by decide) (hts (Cond.fieldLink RX7 9 "BrownClock$Tampers" "guarded" "[Z") (List.mem_of_getElem? (i := 1) rfl)) (fun _ h9 => h9) rfl dX7_guardedPins_6 ?_
          refine va_alen hx hb hK hP 1 2 rfl rfl (v := 3) rfl dX7_guardedPins_9 ?_
          refine lv_icmp_ge (tgt := 31) hx hb dX7_guardedPins_10 (by decide) (fun c_5 => ?_) (fun c_5 => ?_)
          · exact absurd c_5 (by decide)
          · skip
            refine lv_aload_n hx hb dX7_guardedPins_13 rfl (lv_at hl 2 rfl) ?_
            refine va_get (D := D) (ci := 6) (v := .ref g) (C := RX7) (T := TX7) (N := 6) hx hb hts i_X7 hown hK hP 0 rfl rfl 0 (by decide) (hts (Cond.fieldLink RX7 9 "BrownClock$Tampers" "guarded" "[Z") (List.mem_of_getElem? (i := 1) rfl)) (fun _ h9 => h9) rfl dX7_guardedPins_14 ?_
            refine lv_iload_n hx hb dX7_guardedPins_17 rfl (lv_at hl 0 rfl) ?_
            refine k_zald hx hb hK hP 1 rfl 2 rfl (by decide) (Nat.le_of_ble_eq_true rfl) (v := fg 2) rfl dX7_guardedPins_18 ?_
            refine lv_if_eq (tgt := 25) hx hb dX7_guardedPins_19 (by decide) (fun c_6 => ?_) (fun c_6 => ?_)
            · skip
              refine lv_iinc (v := 3) (lv' := [(2, .int 3), (1, .int 0), (0, .ref h)]) hx hb dX7_guardedPins_25 hl (k := 0) rfl (by decide) (by decide) rfl (fun ls hl => ?_)
              refine lv_goto (tgt := 4) hx hb dX7_guardedPins_28 (by decide) ?_
              refine lv_iload_n hx hb dX7_guardedPins_4 rfl (lv_at hl 0 rfl) ?_
              refine lv_aload_n hx hb dX7_guardedPins_5 rfl (lv_at hl 2 rfl) ?_
              refine va_get (D := D) (ci := 6) (v := .ref g) (C := RX7) (T := TX7) (N := 6) hx hb hts i_X7 hown hK hP 0 rfl rfl 0 (by decide) (hts (Cond.fieldLink RX7 9 "BrownClock$Tampers" "guarded" "[Z") (List.mem_of_getElem? (i := 1) rfl)) (fun _ h9 => h9) rfl dX7_guardedPins_6 ?_
              refine va_alen hx hb hK hP 1 2 rfl rfl (v := 3) rfl dX7_guardedPins_9 ?_
              refine lv_icmp_ge (tgt := 31) hx hb dX7_guardedPins_10 (by decide) (fun c_7 => ?_) (fun c_7 => ?_)
              · skip
                refine lv_iload_n hx hb dX7_guardedPins_31 rfl (lv_at hl 1 rfl) ?_
                have hP : va_P D vwCl (fl [[ob h 6 [.ref g, .ref a, .ref b, .ref d, .int w, .int n9]], [za ty g 3 fg], [ia ty a 6 fa], [ia ty b 6 fb], [ia ty d 6 fd]]) s.heap := hP
                have hD : va_D A (fl [[ob h 6 [.ref g, .ref a, .ref b, .ref d, .int w, .int n9]], [za ty g 3 fg], [ia ty a 6 fa], [ia ty b 6 fb], [ia ty d 6 fd]]) := hD
                exact end_i (bs' := (fun (_ : Unit) => [[ob h 6 [.ref g, .ref a, .ref b, .ref d, .int w, .int n9]], [za ty g 3 fg], [ia ty a 6 fa], [ia ty b 6 fb], [ia ty d 6 fd]])) () hx hb hr hlocks hP hD hS (by first | rfl | decide | simp [gpn, c_1, c_2, c_3, c_4, c_5, c_6, c_7]) (Nat.le_of_ble_eq_true rfl) (Nat.le_of_ble_eq_true rfl) dX7_guardedPins_32
              · exact absurd (by decide) c_7
            · skip
              refine lv_iinc (v := 1) (lv' := [(1, .int 1), (2, .int 2), (0, .ref h)]) hx hb dX7_guardedPins_22 hl (k := 1) rfl (by decide) (by decide) rfl (fun ls hl => ?_)
              refine lv_iinc (v := 3) (lv' := [(2, .int 3), (1, .int 1), (0, .ref h)]) hx hb dX7_guardedPins_25 hl (k := 1) rfl (by decide) (by decide) rfl (fun ls hl => ?_)
              refine lv_goto (tgt := 4) hx hb dX7_guardedPins_28 (by decide) ?_
              refine lv_iload_n hx hb dX7_guardedPins_4 rfl (lv_at hl 0 rfl) ?_
              refine lv_aload_n hx hb dX7_guardedPins_5 rfl (lv_at hl 2 rfl) ?_
              refine va_get (D := D) (ci := 6) (v := .ref g) (C := RX7) (T := TX7) (N := 6) hx hb hts i_X7 hown hK hP 0 rfl rfl 0 (by decide) (hts (Cond.fieldLink RX7 9 "BrownClock$Tampers" "guarded" "[Z") (List.mem_of_getElem? (i := 1) rfl)) (fun _ h9 => h9) rfl dX7_guardedPins_6 ?_
              refine va_alen hx hb hK hP 1 2 rfl rfl (v := 3) rfl dX7_guardedPins_9 ?_
              refine lv_icmp_ge (tgt := 31) hx hb dX7_guardedPins_10 (by decide) (fun c_8 => ?_) (fun c_8 => ?_)
              · skip
                refine lv_iload_n hx hb dX7_guardedPins_31 rfl (lv_at hl 1 rfl) ?_
                have hP : va_P D vwCl (fl [[ob h 6 [.ref g, .ref a, .ref b, .ref d, .int w, .int n9]], [za ty g 3 fg], [ia ty a 6 fa], [ia ty b 6 fb], [ia ty d 6 fd]]) s.heap := hP
                have hD : va_D A (fl [[ob h 6 [.ref g, .ref a, .ref b, .ref d, .int w, .int n9]], [za ty g 3 fg], [ia ty a 6 fa], [ia ty b 6 fb], [ia ty d 6 fd]]) := hD
                exact end_i (bs' := (fun (_ : Unit) => [[ob h 6 [.ref g, .ref a, .ref b, .ref d, .int w, .int n9]], [za ty g 3 fg], [ia ty a 6 fa], [ia ty b 6 fb], [ia ty d 6 fd]])) () hx hb hr hlocks hP hD hS (by first | rfl | decide | simp [gpn, c_1, c_2, c_3, c_4, c_5, c_6, c_8]) (Nat.le_of_ble_eq_true rfl) (Nat.le_of_ble_eq_true rfl) dX7_guardedPins_32
              · exact absurd (by decide) c_8
        · skip
          refine lv_iinc (v := 1) (lv' := [(1, .int 1), (2, .int 1), (0, .ref h)]) hx hb dX7_guardedPins_22 hl (k := 1) rfl (by decide) (by decide) rfl (fun ls hl => ?_)
          refine lv_iinc (v := 2) (lv' := [(2, .int 2), (1, .int 1), (0, .ref h)]) hx hb dX7_guardedPins_25 hl (k := 1) rfl (by decide) (by decide) rfl (fun ls hl => ?_)
          refine lv_goto (tgt := 4) hx hb dX7_guardedPins_28 (by decide) ?_
          refine lv_iload_n hx hb dX7_guardedPins_4 rfl (lv_at hl 0 rfl) ?_
          refine lv_aload_n hx hb dX7_guardedPins_5 rfl (lv_at hl 2 rfl) ?_
          refine va_get (D := D) (ci := 6) (v := .ref g) (C := RX7) (T := TX7) (N := 6) hx hb hts i_X7 hown hK hP 0 rfl rfl 0 (by decide) (hts (Cond.fieldLink RX7 9 "BrownClock$Tampers" "guarded" "[Z") (List.mem_of_getElem? (i := 1) rfl)) (fun _ h9 => h9) rfl dX7_guardedPins_6 ?_
          refine va_alen hx hb hK hP 1 2 rfl rfl (v := 3) rfl dX7_guardedPins_9 ?_
          refine lv_icmp_ge (tgt := 31) hx hb dX7_guardedPins_10 (by decide) (fun c_9 => ?_) (fun c_9 => ?_)
          · exact absurd c_9 (by decide)
          · skip
            refine lv_aload_n hx hb dX7_guardedPins_13 rfl (lv_at hl 2 rfl) ?_
            refine va_get (D := D) (ci := 6) (v := .ref g) (C := RX7) (T := TX7) (N := 6) hx hb hts i_X7 hown hK hP 0 rfl rfl 0 (by decide) (hts (Cond.fieldLink RX7 9 "BrownClock$Tampers" "guarded" "[Z") (List.mem_of_getElem? (i := 1) rfl)) (fun _ h9 => h9) rfl dX7_guardedPins_14 ?_
            refine lv_iload_n hx hb dX7_guardedPins_17 rfl (lv_at hl 0 rfl) ?_
            refine k_zald hx hb hK hP 1 rfl 2 rfl (by decide) (Nat.le_of_ble_eq_true rfl) (v := fg 2) rfl dX7_guardedPins_18 ?_
            refine lv_if_eq (tgt := 25) hx hb dX7_guardedPins_19 (by decide) (fun c_10 => ?_) (fun c_10 => ?_)
            · skip
              refine lv_iinc (v := 3) (lv' := [(2, .int 3), (1, .int 1), (0, .ref h)]) hx hb dX7_guardedPins_25 hl (k := 0) rfl (by decide) (by decide) rfl (fun ls hl => ?_)
              refine lv_goto (tgt := 4) hx hb dX7_guardedPins_28 (by decide) ?_
              refine lv_iload_n hx hb dX7_guardedPins_4 rfl (lv_at hl 0 rfl) ?_
              refine lv_aload_n hx hb dX7_guardedPins_5 rfl (lv_at hl 2 rfl) ?_
              refine va_get (D := D) (ci := 6) (v := .ref g) (C := RX7) (T := TX7) (N := 6) hx hb hts i_X7 hown hK hP 0 rfl rfl 0 (by decide) (hts (Cond.fieldLink RX7 9 "BrownClock$Tampers" "guarded" "[Z") (List.mem_of_getElem? (i := 1) rfl)) (fun _ h9 => h9) rfl dX7_guardedPins_6 ?_
              refine va_alen hx hb hK hP 1 2 rfl rfl (v := 3) rfl dX7_guardedPins_9 ?_
              refine lv_icmp_ge (tgt := 31) hx hb dX7_guardedPins_10 (by decide) (fun c_11 => ?_) (fun c_11 => ?_)
              · skip
                refine lv_iload_n hx hb dX7_guardedPins_31 rfl (lv_at hl 1 rfl) ?_
                have hP : va_P D vwCl (fl [[ob h 6 [.ref g, .ref a, .ref b, .ref d, .int w, .int n9]], [za ty g 3 fg], [ia ty a 6 fa], [ia ty b 6 fb], [ia ty d 6 fd]]) s.heap := hP
                have hD : va_D A (fl [[ob h 6 [.ref g, .ref a, .ref b, .ref d, .int w, .int n9]], [za ty g 3 fg], [ia ty a 6 fa], [ia ty b 6 fb], [ia ty d 6 fd]]) := hD
                exact end_i (bs' := (fun (_ : Unit) => [[ob h 6 [.ref g, .ref a, .ref b, .ref d, .int w, .int n9]], [za ty g 3 fg], [ia ty a 6 fa], [ia ty b 6 fb], [ia ty d 6 fd]])) () hx hb hr hlocks hP hD hS (by first | rfl | decide | simp [gpn, c_1, c_2, c_3, c_4, c_9, c_10, c_11]) (Nat.le_of_ble_eq_true rfl) (Nat.le_of_ble_eq_true rfl) dX7_guardedPins_32
              · exact absurd (by decide) c_11
            · skip
              refine lv_iinc (v := 2) (lv' := [(1, .int 2), (2, .int 2), (0, .ref h)]) hx hb dX7_guardedPins_22 hl (k := 1) rfl (by decide) (by decide) rfl (fun ls hl => ?_)
              refine lv_iinc (v := 3) (lv' := [(2, .int 3), (1, .int 2), (0, .ref h)]) hx hb dX7_guardedPins_25 hl (k := 1) rfl (by decide) (by decide) rfl (fun ls hl => ?_)
              refine lv_goto (tgt := 4) hx hb dX7_guardedPins_28 (by decide) ?_
              refine lv_iload_n hx hb dX7_guardedPins_4 rfl (lv_at hl 0 rfl) ?_
              refine lv_aload_n hx hb dX7_guardedPins_5 rfl (lv_at hl 2 rfl) ?_
              refine va_get (D := D) (ci := 6) (v := .ref g) (C := RX7) (T := TX7) (N := 6) hx hb hts i_X7 hown hK hP 0 rfl rfl 0 (by decide) (hts (Cond.fieldLink RX7 9 "BrownClock$Tampers" "guarded" "[Z") (List.mem_of_getElem? (i := 1) rfl)) (fun _ h9 => h9) rfl dX7_guardedPins_6 ?_
              refine va_alen hx hb hK hP 1 2 rfl rfl (v := 3) rfl dX7_guardedPins_9 ?_
              refine lv_icmp_ge (tgt := 31) hx hb dX7_guardedPins_10 (by decide) (fun c_12 => ?_) (fun c_12 => ?_)
              · skip
                refine lv_iload_n hx hb dX7_guardedPins_31 rfl (lv_at hl 1 rfl) ?_
                have hP : va_P D vwCl (fl [[ob h 6 [.ref g, .ref a, .ref b, .ref d, .int w, .int n9]], [za ty g 3 fg], [ia ty a 6 fa], [ia ty b 6 fb], [ia ty d 6 fd]]) s.heap := hP
                have hD : va_D A (fl [[ob h 6 [.ref g, .ref a, .ref b, .ref d, .int w, .int n9]], [za ty g 3 fg], [ia ty a 6 fa], [ia ty b 6 fb], [ia ty d 6 fd]]) := hD
                exact end_i (bs' := (fun (_ : Unit) => [[ob h 6 [.ref g, .ref a, .ref b, .ref d, .int w, .int n9]], [za ty g 3 fg], [ia ty a 6 fa], [ia ty b 6 fb], [ia ty d 6 fd]])) () hx hb hr hlocks hP hD hS (by first | rfl | decide | simp [gpn, c_1, c_2, c_3, c_4, c_9, c_10, c_12]) (Nat.le_of_ble_eq_true rfl) (Nat.le_of_ble_eq_true rfl) dX7_guardedPins_32
              · exact absurd (by decide) c_12
    · skip
      refine lv_iinc (v := 1) (lv' := [(1, .int 1), (2, .int 0), (0, .ref h)]) hx hb dX7_guardedPins_22 hl (k := 1) rfl (by decide) (by decide) rfl (fun ls hl => ?_)
      refine lv_iinc (v := 1) (lv' := [(2, .int 1), (1, .int 1), (0, .ref h)]) hx hb dX7_guardedPins_25 hl (k := 1) rfl (by decide) (by decide) rfl (fun ls hl => ?_)
      refine lv_goto (tgt := 4) hx hb dX7_guardedPins_28 (by decide) ?_
      refine lv_iload_n hx hb dX7_guardedPins_4 rfl (lv_at hl 0 rfl) ?_
      refine lv_aload_n hx hb dX7_guardedPins_5 rfl (lv_at hl 2 rfl) ?_
      refine va_get (D := D) (ci := 6) (v := .ref g) (C := RX7) (T := TX7) (N := 6) hx hb hts i_X7 hown hK hP 0 rfl rfl 0 (by decide) (hts (Cond.fieldLink RX7 9 "BrownClock$Tampers" "guarded" "[Z") (List.mem_of_getElem? (i := 1) rfl)) (fun _ h9 => h9) rfl dX7_guardedPins_6 ?_
      refine va_alen hx hb hK hP 1 2 rfl rfl (v := 3) rfl dX7_guardedPins_9 ?_
      refine lv_icmp_ge (tgt := 31) hx hb dX7_guardedPins_10 (by decide) (fun c_13 => ?_) (fun c_13 => ?_)
      · exact absurd c_13 (by decide)
      · skip
        refine lv_aload_n hx hb dX7_guardedPins_13 rfl (lv_at hl 2 rfl) ?_
        refine va_get (D := D) (ci := 6) (v := .ref g) (C := RX7) (T := TX7) (N := 6) hx hb hts i_X7 hown hK hP 0 rfl rfl 0 (by decide) (hts (Cond.fieldLink RX7 9 "BrownClock$Tampers" "guarded" "[Z") (List.mem_of_getElem? (i := 1) rfl)) (fun _ h9 => h9) rfl dX7_guardedPins_14 ?_
        refine lv_iload_n hx hb dX7_guardedPins_17 rfl (lv_at hl 0 rfl) ?_
        refine k_zald hx hb hK hP 1 rfl 1 rfl (by decide) (Nat.le_of_ble_eq_true rfl) (v := fg 1) rfl dX7_guardedPins_18 ?_
        refine lv_if_eq (tgt := 25) hx hb dX7_guardedPins_19 (by decide) (fun c_14 => ?_) (fun c_14 => ?_)
        · skip
          refine lv_iinc (v := 2) (lv' := [(2, .int 2), (1, .int 1), (0, .ref h)]) hx hb dX7_guardedPins_25 hl (k := 0) rfl (by decide) (by decide) rfl (fun ls hl => ?_)
          refine lv_goto (tgt := 4) hx hb dX7_guardedPins_28 (by decide) ?_
          refine lv_iload_n hx hb dX7_guardedPins_4 rfl (lv_at hl 0 rfl) ?_
          refine lv_aload_n hx hb dX7_guardedPins_5 rfl (lv_at hl 2 rfl) ?_
          refine va_get (D := D) (ci := 6) (v := .ref g) (C := RX7) (T := TX7) (N := 6) hx hb hts i_X7 hown hK hP 0 rfl rfl 0 (by decide) (hts (Cond.fieldLink RX7 9 "BrownClock$Tampers" "guarded" "[Z") (List.mem_of_getElem? (i := 1) rfl)) (fun _ h9 => h9) rfl dX7_guardedPins_6 ?_
          refine va_alen hx hb hK hP 1 2 rfl rfl (v := 3) rfl dX7_guardedPins_9 ?_
          refine lv_icmp_ge (tgt := 31) hx hb dX7_guardedPins_10 (by decide) (fun c_15 => ?_) (fun c_15 => ?_)
          · exact absurd c_15 (by decide)
          · skip
            refine lv_aload_n hx hb dX7_guardedPins_13 rfl (lv_at hl 2 rfl) ?_
            refine va_get (D := D) (ci := 6) (v := .ref g) (C := RX7) (T := TX7) (N := 6) hx hb hts i_X7 hown hK hP 0 rfl rfl 0 (by decide) (hts (Cond.fieldLink RX7 9 "BrownClock$Tampers" "guarded" "[Z") (List.mem_of_getElem? (i := 1) rfl)) (fun _ h9 => h9) rfl dX7_guardedPins_14 ?_
            refine lv_iload_n hx hb dX7_guardedPins_17 rfl (lv_at hl 0 rfl) ?_
            refine k_zald hx hb hK hP 1 rfl 2 rfl (by decide) (Nat.le_of_ble_eq_true rfl) (v := fg 2) rfl dX7_guardedPins_18 ?_
            refine lv_if_eq (tgt := 25) hx hb dX7_guardedPins_19 (by decide) (fun c_16 => ?_) (fun c_16 => ?_)
            · skip
              refine lv_iinc (v := 3) (lv' := [(2, .int 3), (1, .int 1), (0, .ref h)]) hx hb dX7_guardedPins_25 hl (k := 0) rfl (by decide) (by decide) rfl (fun ls hl => ?_)
              refine lv_goto (tgt := 4) hx hb dX7_guardedPins_28 (by decide) ?_
              refine lv_iload_n hx hb dX7_guardedPins_4 rfl (lv_at hl 0 rfl) ?_
              refine lv_aload_n hx hb dX7_guardedPins_5 rfl (lv_at hl 2 rfl) ?_
              refine va_get (D := D) (ci := 6) (v := .ref g) (C := RX7) (T := TX7) (N := 6) hx hb hts i_X7 hown hK hP 0 rfl rfl 0 (by decide) (hts (Cond.fieldLink RX7 9 "BrownClock$Tampers" "guarded" "[Z") (List.mem_of_getElem? (i := 1) rfl)) (fun _ h9 => h9) rfl dX7_guardedPins_6 ?_
              refine va_alen hx hb hK hP 1 2 rfl rfl (v := 3) rfl dX7_guardedPins_9 ?_
              refine lv_icmp_ge (tgt := 31) hx hb dX7_guardedPins_10 (by decide) (fun c_17 => ?_) (fun c_17 => ?_)
              · skip
                refine lv_iload_n hx hb dX7_guardedPins_31 rfl (lv_at hl 1 rfl) ?_
                have hP : va_P D vwCl (fl [[ob h 6 [.ref g, .ref a, .ref b, .ref d, .int w, .int n9]], [za ty g 3 fg], [ia ty a 6 fa], [ia ty b 6 fb], [ia ty d 6 fd]]) s.heap := hP
                have hD : va_D A (fl [[ob h 6 [.ref g, .ref a, .ref b, .ref d, .int w, .int n9]], [za ty g 3 fg], [ia ty a 6 fa], [ia ty b 6 fb], [ia ty d 6 fd]]) := hD
                exact end_i (bs' := (fun (_ : Unit) => [[ob h 6 [.ref g, .ref a, .ref b, .ref d, .int w, .int n9]], [za ty g 3 fg], [ia ty a 6 fa], [ia ty b 6 fb], [ia ty d 6 fd]])) () hx hb hr hlocks hP hD hS (by first | rfl | decide | simp [gpn, c_1, c_2, c_13, c_14, c_15, c_16, c_17]) (Nat.le_of_ble_eq_true rfl) (Nat.le_of_ble_eq_true rfl) dX7_guardedPins_32
              · exact absurd (by decide) c_17
            · skip
              refine lv_iinc (v := 2) (lv' := [(1, .int 2), (2, .int 2), (0, .ref h)]) hx hb dX7_guardedPins_22 hl (k := 1) rfl (by decide) (by decide) rfl (fun ls hl => ?_)
              refine lv_iinc (v := 3) (lv' := [(2, .int 3), (1, .int 2), (0, .ref h)]) hx hb dX7_guardedPins_25 hl (k := 1) rfl (by decide) (by decide) rfl (fun ls hl => ?_)
              refine lv_goto (tgt := 4) hx hb dX7_guardedPins_28 (by decide) ?_
              refine lv_iload_n hx hb dX7_guardedPins_4 rfl (lv_at hl 0 rfl) ?_
              refine lv_aload_n hx hb dX7_guardedPins_5 rfl (lv_at hl 2 rfl) ?_
              refine va_get (D := D) (ci := 6) (v := .ref g) (C := RX7) (T := TX7) (N := 6) hx hb hts i_X7 hown hK hP 0 rfl rfl 0 (by decide) (hts (Cond.fieldLink RX7 9 "BrownClock$Tampers" "guarded" "[Z") (List.mem_of_getElem? (i := 1) rfl)) (fun _ h9 => h9) rfl dX7_guardedPins_6 ?_
              refine va_alen hx hb hK hP 1 2 rfl rfl (v := 3) rfl dX7_guardedPins_9 ?_
              refine lv_icmp_ge (tgt := 31) hx hb dX7_guardedPins_10 (by decide) (fun c_18 => ?_) (fun c_18 => ?_)
              · skip
                refine lv_iload_n hx hb dX7_guardedPins_31 rfl (lv_at hl 1 rfl) ?_
                have hP : va_P D vwCl (fl [[ob h 6 [.ref g, .ref a, .ref b, .ref d, .int w, .int n9]], [za ty g 3 fg], [ia ty a 6 fa], [ia ty b 6 fb], [ia ty d 6 fd]]) s.heap := hP
                have hD : va_D A (fl [[ob h 6 [.ref g, .ref a, .ref b, .ref d, .int w, .int n9]], [za ty g 3 fg], [ia ty a 6 fa], [ia ty b 6 fb], [ia ty d 6 fd]]) := hD
                exact end_i (bs' := (fun (_ : Unit) => [[ob h 6 [.ref g, .ref a, .ref b, .ref d, .int w, .int n9]], [za ty g 3 fg], [ia ty a 6 fa], [ia ty b 6 fb], [ia ty d 6 fd]])) () hx hb hr hlocks hP hD hS (by first | rfl | decide | simp [gpn, c_1, c_2, c_13, c_14, c_15, c_16, c_18]) (Nat.le_of_ble_eq_true rfl) (Nat.le_of_ble_eq_true rfl) dX7_guardedPins_32
              · exact absurd (by decide) c_18
        · skip
          refine lv_iinc (v := 2) (lv' := [(1, .int 2), (2, .int 1), (0, .ref h)]) hx hb dX7_guardedPins_22 hl (k := 1) rfl (by decide) (by decide) rfl (fun ls hl => ?_)
          refine lv_iinc (v := 2) (lv' := [(2, .int 2), (1, .int 2), (0, .ref h)]) hx hb dX7_guardedPins_25 hl (k := 1) rfl (by decide) (by decide) rfl (fun ls hl => ?_)
          refine lv_goto (tgt := 4) hx hb dX7_guardedPins_28 (by decide) ?_
          refine lv_iload_n hx hb dX7_guardedPins_4 rfl (lv_at hl 0 rfl) ?_
          refine lv_aload_n hx hb dX7_guardedPins_5 rfl (lv_at hl 2 rfl) ?_
          refine va_get (D := D) (ci := 6) (v := .ref g) (C := RX7) (T := TX7) (N := 6) hx hb hts i_X7 hown hK hP 0 rfl rfl 0 (by decide) (hts (Cond.fieldLink RX7 9 "BrownClock$Tampers" "guarded" "[Z") (List.mem_of_getElem? (i := 1) rfl)) (fun _ h9 => h9) rfl dX7_guardedPins_6 ?_
          refine va_alen hx hb hK hP 1 2 rfl rfl (v := 3) rfl dX7_guardedPins_9 ?_
          refine lv_icmp_ge (tgt := 31) hx hb dX7_guardedPins_10 (by decide) (fun c_19 => ?_) (fun c_19 => ?_)
          · exact absurd c_19 (by decide)
          · skip
            refine lv_aload_n hx hb dX7_guardedPins_13 rfl (lv_at hl 2 rfl) ?_
            refine va_get (D := D) (ci := 6) (v := .ref g) (C := RX7) (T := TX7) (N := 6) hx hb hts i_X7 hown hK hP 0 rfl rfl 0 (by decide) (hts (Cond.fieldLink RX7 9 "BrownClock$Tampers" "guarded" "[Z") (List.mem_of_getElem? (i := 1) rfl)) (fun _ h9 => h9) rfl dX7_guardedPins_14 ?_
            refine lv_iload_n hx hb dX7_guardedPins_17 rfl (lv_at hl 0 rfl) ?_
            refine k_zald hx hb hK hP 1 rfl 2 rfl (by decide) (Nat.le_of_ble_eq_true rfl) (v := fg 2) rfl dX7_guardedPins_18 ?_
            refine lv_if_eq (tgt := 25) hx hb dX7_guardedPins_19 (by decide) (fun c_20 => ?_) (fun c_20 => ?_)
            · skip
              refine lv_iinc (v := 3) (lv' := [(2, .int 3), (1, .int 2), (0, .ref h)]) hx hb dX7_guardedPins_25 hl (k := 0) rfl (by decide) (by decide) rfl (fun ls hl => ?_)
              refine lv_goto (tgt := 4) hx hb dX7_guardedPins_28 (by decide) ?_
              refine lv_iload_n hx hb dX7_guardedPins_4 rfl (lv_at hl 0 rfl) ?_
              refine lv_aload_n hx hb dX7_guardedPins_5 rfl (lv_at hl 2 rfl) ?_
              refine va_get (D := D) (ci := 6) (v := .ref g) (C := RX7) (T := TX7) (N := 6) hx hb hts i_X7 hown hK hP 0 rfl rfl 0 (by decide) (hts (Cond.fieldLink RX7 9 "BrownClock$Tampers" "guarded" "[Z") (List.mem_of_getElem? (i := 1) rfl)) (fun _ h9 => h9) rfl dX7_guardedPins_6 ?_
              refine va_alen hx hb hK hP 1 2 rfl rfl (v := 3) rfl dX7_guardedPins_9 ?_
              refine lv_icmp_ge (tgt := 31) hx hb dX7_guardedPins_10 (by decide) (fun c_21 => ?_) (fun c_21 => ?_)
              · skip
                refine lv_iload_n hx hb dX7_guardedPins_31 rfl (lv_at hl 1 rfl) ?_
                have hP : va_P D vwCl (fl [[ob h 6 [.ref g, .ref a, .ref b, .ref d, .int w, .int n9]], [za ty g 3 fg], [ia ty a 6 fa], [ia ty b 6 fb], [ia ty d 6 fd]]) s.heap := hP
                have hD : va_D A (fl [[ob h 6 [.ref g, .ref a, .ref b, .ref d, .int w, .int n9]], [za ty g 3 fg], [ia ty a 6 fa], [ia ty b 6 fb], [ia ty d 6 fd]]) := hD
                exact end_i (bs' := (fun (_ : Unit) => [[ob h 6 [.ref g, .ref a, .ref b, .ref d, .int w, .int n9]], [za ty g 3 fg], [ia ty a 6 fa], [ia ty b 6 fb], [ia ty d 6 fd]])) () hx hb hr hlocks hP hD hS (by first | rfl | decide | simp [gpn, c_1, c_2, c_13, c_14, c_19, c_20, c_21]) (Nat.le_of_ble_eq_true rfl) (Nat.le_of_ble_eq_true rfl) dX7_guardedPins_32
              · exact absurd (by decide) c_21
            · skip
              refine lv_iinc (v := 3) (lv' := [(1, .int 3), (2, .int 2), (0, .ref h)]) hx hb dX7_guardedPins_22 hl (k := 1) rfl (by decide) (by decide) rfl (fun ls hl => ?_)
              refine lv_iinc (v := 3) (lv' := [(2, .int 3), (1, .int 3), (0, .ref h)]) hx hb dX7_guardedPins_25 hl (k := 1) rfl (by decide) (by decide) rfl (fun ls hl => ?_)
              refine lv_goto (tgt := 4) hx hb dX7_guardedPins_28 (by decide) ?_
              refine lv_iload_n hx hb dX7_guardedPins_4 rfl (lv_at hl 0 rfl) ?_
              refine lv_aload_n hx hb dX7_guardedPins_5 rfl (lv_at hl 2 rfl) ?_
              refine va_get (D := D) (ci := 6) (v := .ref g) (C := RX7) (T := TX7) (N := 6) hx hb hts i_X7 hown hK hP 0 rfl rfl 0 (by decide) (hts (Cond.fieldLink RX7 9 "BrownClock$Tampers" "guarded" "[Z") (List.mem_of_getElem? (i := 1) rfl)) (fun _ h9 => h9) rfl dX7_guardedPins_6 ?_
              refine va_alen hx hb hK hP 1 2 rfl rfl (v := 3) rfl dX7_guardedPins_9 ?_
              refine lv_icmp_ge (tgt := 31) hx hb dX7_guardedPins_10 (by decide) (fun c_22 => ?_) (fun c_22 => ?_)
              · skip
                refine lv_iload_n hx hb dX7_guardedPins_31 rfl (lv_at hl 1 rfl) ?_
                have hP : va_P D vwCl (fl [[ob h 6 [.ref g, .ref a, .ref b, .ref d, .int w, .int n9]], [za ty g 3 fg], [ia ty a 6 fa], [ia ty b 6 fb], [ia ty d 6 fd]]) s.heap := hP
                have hD : va_D A (fl [[ob h 6 [.ref g, .ref a, .ref b, .ref d, .int w, .int n9]], [za ty g 3 fg], [ia ty a 6 fa], [ia ty b 6 fb], [ia ty d 6 fd]]) := hD
                exact end_i (bs' := (fun (_ : Unit) => [[ob h 6 [.ref g, .ref a, .ref b, .ref d, .int w, .int n9]], [za ty g 3 fg], [ia ty a 6 fa], [ia ty b 6 fb], [ia ty d 6 fd]])) () hx hb hr hlocks hP hD hS (by first | rfl | decide | simp [gpn, c_1, c_2, c_13, c_14, c_19, c_20, c_22]) (Nat.le_of_ble_eq_true rfl) (Nat.le_of_ble_eq_true rfl) dX7_guardedPins_32
              · exact absurd (by decide) c_22
set_option maxHeartbeats 4000000 in
set_option maxRecDepth 100000 in
theorem c_X7_add (l : Launch) (D : va_G) (ty : Nat → ClassId) (h g a b d : Nat) (w n9 : Int32) (fg fa fb fd : Nat → Int32) (p9 s9 z9 : Int32) (h0 : ¬ w < 0) : CTv l yX7_add wsX7_add ({ frames := 0, cells := 0, slots := 0, locals := 0 }) D ty [.ref h, .int p9, .int s9, .int z9] [[ob h 6 [.ref g, .ref a, .ref b, .ref d, .int w, .int n9]], [za ty g 3 fg], [ia ty a 6 fa], [ia ty b 6 fb], [ia ty d 6 fd]] (fun (_ : Unit) => True) (fun (_ : Unit) => [[ob h 6 [.ref g, .ref a, .ref b, .ref d, .int (if w < 6 then w + 1 else w), .int (n9 + 1)]], [za ty g 3 fg], [ia ty a 6 (rowUp w fa p9)], [ia ty b 6 (rowUp w fb s9)], [ia ty d 6 (rowUp w fd z9)]]) := by
  refine CTv_of cX7_add 4 none (by decide) rfl (Nat.le_of_ble_eq_true rfl) ?_
  intro p e s m args below meth c A hx hb hr hml hown hlocks hin hts hA hX hK hP hD ls hl
  have hown : s.vm.findClass RX7 = some m.cls := hown
  have hS : va_S A s.heap s.heap [] := va_S.rf
  have i_X7 : ∀ z ∈ wsX70, z ∈ wsX7_add := fun z h => List.mem_cons_of_mem _ (List.mem_append_right _ h)
  have hl : lv_has ls 4 [(0, .ref h), (1, .int p9), (2, .int s9), (3, .int z9)] := hl
  refine lv_aload_n hx hb dX7_add_0 rfl (lv_at hl 0 rfl) ?_
  refine lv_dup hx hb dX7_add_1 rfl ?_
  refine va_get (D := D) (ci := 6) (v := .int n9) (C := RX7) (T := TX7) (N := 6) hx hb hts i_X7 hown hK hP 0 rfl rfl 5 (by decide) (hts (Cond.fieldLink RX7 29 "BrownClock$Tampers" "counted" "I") (List.mem_of_getElem? (i := 1) rfl)) (fun _ h9 => h9) rfl dX7_add_2 ?_
  refine lv_iconst (v := 1) hx hb dX7_add_5 (by decide) ?_
  refine k_iadd (v := (n9 + 1)) hx hb dX7_add_6 rfl ?_
  refine va_put (D := D) (ci := 6) (v := .int (n9 + 1)) (ty := .int) (C := RX7) (T := TX7) (N := 6) hx hb hts i_X7 tyX7 tyX7_ok nmX7 hown hK hP hD hS 0 rfl rfl 5 (by decide) (hts (Cond.fieldLink RX7 29 "BrownClock$Tampers" "counted" "I") (List.mem_of_getElem? (i := 1) rfl)) (fun _ h9 => h9) rfl (by decide +kernel) rfl rfl (Nat.le_of_ble_eq_true rfl) dX7_add_7 (fun H locs hP hD hS => ?_)
  have hP : va_P D vwCl (fl [[ob h 6 [.ref g, .ref a, .ref b, .ref d, .int w, .int (n9 + 1)]], [za ty g 3 fg], [ia ty a 6 fa], [ia ty b 6 fb], [ia ty d 6 fd]]) H := hP
  have hD : va_D A (fl [[ob h 6 [.ref g, .ref a, .ref b, .ref d, .int w, .int (n9 + 1)]], [za ty g 3 fg], [ia ty a 6 fa], [ia ty b 6 fb], [ia ty d 6 fd]]) := hD
  refine lv_aload_n hx hb dX7_add_10 rfl (lv_at hl 0 rfl) ?_
  refine va_get (D := D) (ci := 6) (v := .int w) (C := RX7) (T := TX7) (N := 6) hx hb hts i_X7 hown hK hP 0 rfl rfl 4 (by decide) (hts (Cond.fieldLink RX7 25 "BrownClock$Tampers" "rows" "I") (List.mem_of_getElem? (i := 2) rfl)) (fun _ h9 => h9) rfl dX7_add_11 ?_
  refine lv_bipush (v := 6) hx hb dX7_add_14 (by decide) ?_
  refine lv_icmp_lt (tgt := 20) hx hb dX7_add_16 (by decide) (fun c_1 => ?_) (fun c_1 => ?_)
  · skip
    refine lv_aload_n hx hb dX7_add_20 rfl (lv_at hl 0 rfl) ?_
    refine va_get (D := D) (ci := 6) (v := .ref a) (C := RX7) (T := TX7) (N := 6) hx hb hts i_X7 hown hK hP 0 rfl rfl 1 (by decide) (hts (Cond.fieldLink RX7 15 "BrownClock$Tampers" "rowPin" "[I") (List.mem_of_getElem? (i := 3) rfl)) (fun _ h9 => h9) rfl dX7_add_21 ?_
    refine lv_aload_n hx hb dX7_add_24 rfl (lv_at hl 0 rfl) ?_
    refine va_get (D := D) (ci := 6) (v := .int w) (C := RX7) (T := TX7) (N := 6) hx hb hts i_X7 hown hK hP 0 rfl rfl 4 (by decide) (hts (Cond.fieldLink RX7 25 "BrownClock$Tampers" "rows" "I") (List.mem_of_getElem? (i := 2) rfl)) (fun _ h9 => h9) rfl dX7_add_25 ?_
    refine lv_iload_n hx hb dX7_add_28 rfl (lv_at hl 1 rfl) ?_
    refine k_iast hx hb hK hP hD hS 2 rfl w.toNatClampNeg (nI_self h0) (nI_ltn h0 (by decide) c_1) (Nat.le_of_ble_eq_true rfl) dX7_add_29 (fun H locs hP hD hS => ?_)
    have hP : va_P D vwCl (fl [[ob h 6 [.ref g, .ref a, .ref b, .ref d, .int w, .int (n9 + 1)]], [za ty g 3 fg], [ia ty a 6 (upd fa w.toNatClampNeg p9)], [ia ty b 6 fb], [ia ty d 6 fd]]) H := hP
    have hD : va_D A (fl [[ob h 6 [.ref g, .ref a, .ref b, .ref d, .int w, .int (n9 + 1)]], [za ty g 3 fg], [ia ty a 6 (upd fa w.toNatClampNeg p9)], [ia ty b 6 fb], [ia ty d 6 fd]]) := hD
    refine lv_aload_n hx hb dX7_add_30 rfl (lv_at hl 0 rfl) ?_
    refine va_get (D := D) (ci := 6) (v := .ref b) (C := RX7) (T := TX7) (N := 6) hx hb hts i_X7 hown hK hP 0 rfl rfl 2 (by decide) (hts (Cond.fieldLink RX7 19 "BrownClock$Tampers" "rowSeconds" "[I") (List.mem_of_getElem? (i := 4) rfl)) (fun _ h9 => h9) rfl dX7_add_31 ?_
    refine lv_aload_n hx hb dX7_add_34 rfl (lv_at hl 0 rfl) ?_
    refine va_get (D := D) (ci := 6) (v := .int w) (C := RX7) (T := TX7) (N := 6) hx hb hts i_X7 hown hK hP 0 rfl rfl 4 (by decide) (hts (Cond.fieldLink RX7 25 "BrownClock$Tampers" "rows" "I") (List.mem_of_getElem? (i := 2) rfl)) (fun _ h9 => h9) rfl dX7_add_35 ?_
    refine lv_iload_n hx hb dX7_add_38 rfl (lv_at hl 2 rfl) ?_
    refine k_iast hx hb hK hP hD hS 3 rfl w.toNatClampNeg (nI_self h0) (nI_ltn h0 (by decide) c_1) (Nat.le_of_ble_eq_true rfl) dX7_add_39 (fun H locs hP hD hS => ?_)
    have hP : va_P D vwCl (fl [[ob h 6 [.ref g, .ref a, .ref b, .ref d, .int w, .int (n9 + 1)]], [za ty g 3 fg], [ia ty a 6 (upd fa w.toNatClampNeg p9)], [ia ty b 6 (upd fb w.toNatClampNeg s9)], [ia ty d 6 fd]]) H := hP
    have hD : va_D A (fl [[ob h 6 [.ref g, .ref a, .ref b, .ref d, .int w, .int (n9 + 1)]], [za ty g 3 fg], [ia ty a 6 (upd fa w.toNatClampNeg p9)], [ia ty b 6 (upd fb w.toNatClampNeg s9)], [ia ty d 6 fd]]) := hD
    refine lv_aload_n hx hb dX7_add_40 rfl (lv_at hl 0 rfl) ?_
    refine va_get (D := D) (ci := 6) (v := .ref d) (C := RX7) (T := TX7) (N := 6) hx hb hts i_X7 hown hK hP 0 rfl rfl 3 (by decide) (hts (Cond.fieldLink RX7 22 "BrownClock$Tampers" "rowDomain" "[I") (List.mem_of_getElem? (i := 5) rfl)) (fun _ h9 => h9) rfl dX7_add_41 ?_
    refine lv_aload_n hx hb dX7_add_44 rfl (lv_at hl 0 rfl) ?_
    refine va_get (D := D) (ci := 6) (v := .int w) (C := RX7) (T := TX7) (N := 6) hx hb hts i_X7 hown hK hP 0 rfl rfl 4 (by decide) (hts (Cond.fieldLink RX7 25 "BrownClock$Tampers" "rows" "I") (List.mem_of_getElem? (i := 2) rfl)) (fun _ h9 => h9) rfl dX7_add_45 ?_
    refine lv_iload_n hx hb dX7_add_48 rfl (lv_at hl 3 rfl) ?_
    refine k_iast hx hb hK hP hD hS 4 rfl w.toNatClampNeg (nI_self h0) (nI_ltn h0 (by decide) c_1) (Nat.le_of_ble_eq_true rfl) dX7_add_49 (fun H locs hP hD hS => ?_)
    have hP : va_P D vwCl (fl [[ob h 6 [.ref g, .ref a, .ref b, .ref d, .int w, .int (n9 + 1)]], [za ty g 3 fg], [ia ty a 6 (upd fa w.toNatClampNeg p9)], [ia ty b 6 (upd fb w.toNatClampNeg s9)], [ia ty d 6 (upd fd w.toNatClampNeg z9)]]) H := hP
    have hD : va_D A (fl [[ob h 6 [.ref g, .ref a, .ref b, .ref d, .int w, .int (n9 + 1)]], [za ty g 3 fg], [ia ty a 6 (upd fa w.toNatClampNeg p9)], [ia ty b 6 (upd fb w.toNatClampNeg s9)], [ia ty d 6 (upd fd w.toNatClampNeg z9)]]) := hD
    refine lv_aload_n hx hb dX7_add_50 rfl (lv_at hl 0 rfl) ?_
    refine lv_dup hx hb dX7_add_51 rfl ?_
    refine va_get (D := D) (ci := 6) (v := .int w) (C := RX7) (T := TX7) (N := 6) hx hb hts i_X7 hown hK hP 0 rfl rfl 4 (by decide) (hts (Cond.fieldLink RX7 25 "BrownClock$Tampers" "rows" "I") (List.mem_of_getElem? (i := 2) rfl)) (fun _ h9 => h9) rfl dX7_add_52 ?_
    refine lv_iconst (v := 1) hx hb dX7_add_55 (by decide) ?_
    refine k_iadd (v := (w + 1)) hx hb dX7_add_56 rfl ?_
    refine va_put (D := D) (ci := 6) (v := .int (w + 1)) (ty := .int) (C := RX7) (T := TX7) (N := 6) hx hb hts i_X7 tyX7 tyX7_ok nmX7 hown hK hP hD hS 0 rfl rfl 4 (by decide) (hts (Cond.fieldLink RX7 25 "BrownClock$Tampers" "rows" "I") (List.mem_of_getElem? (i := 2) rfl)) (fun _ h9 => h9) rfl (by decide +kernel) rfl rfl (Nat.le_of_ble_eq_true rfl) dX7_add_57 (fun H locs hP hD hS => ?_)
    have hP : va_P D vwCl (fl [[ob h 6 [.ref g, .ref a, .ref b, .ref d, .int (w + 1), .int (n9 + 1)]], [za ty g 3 fg], [ia ty a 6 (upd fa w.toNatClampNeg p9)], [ia ty b 6 (upd fb w.toNatClampNeg s9)], [ia ty d 6 (upd fd w.toNatClampNeg z9)]]) H := hP
    have hD : va_D A (fl [[ob h 6 [.ref g, .ref a, .ref b, .ref d, .int (w + 1), .int (n9 + 1)]], [za ty g 3 fg], [ia ty a 6 (upd fa w.toNatClampNeg p9)], [ia ty b 6 (upd fb w.toNatClampNeg s9)], [ia ty d 6 (upd fd w.toNatClampNeg z9)]]) := hD
    have hP : va_P D vwCl (fl [[ob h 6 [.ref g, .ref a, .ref b, .ref d, .int (if w < 6 then w + 1 else w), .int (n9 + 1)]], [za ty g 3 fg], [ia ty a 6 (rowUp w fa p9)], [ia ty b 6 (rowUp w fb s9)], [ia ty d 6 (rowUp w fd z9)]]) H := by simp only [rowUp, c_1, if_true, if_false]; exact hP
    have hD : va_D A (fl [[ob h 6 [.ref g, .ref a, .ref b, .ref d, .int (if w < 6 then w + 1 else w), .int (n9 + 1)]], [za ty g 3 fg], [ia ty a 6 (rowUp w fa p9)], [ia ty b 6 (rowUp w fb s9)], [ia ty d 6 (rowUp w fd z9)]]) := (D_same2 hD [h, g, a, b, d] rfl rfl)
    exact end_v (bs' := (fun (_ : Unit) => [[ob h 6 [.ref g, .ref a, .ref b, .ref d, .int (if w < 6 then w + 1 else w), .int (n9 + 1)]], [za ty g 3 fg], [ia ty a 6 (rowUp w fa p9)], [ia ty b 6 (rowUp w fb s9)], [ia ty d 6 (rowUp w fd z9)]])) () hx hb hr hlocks hP hD hS trivial (Nat.le_of_ble_eq_true rfl) (Nat.le_of_ble_eq_true rfl) dX7_add_60
  · skip
    have hP : va_P D vwCl (fl [[ob h 6 [.ref g, .ref a, .ref b, .ref d, .int (if w < 6 then w + 1 else w), .int (n9 + 1)]], [za ty g 3 fg], [ia ty a 6 (rowUp w fa p9)], [ia ty b 6 (rowUp w fb s9)], [ia ty d 6 (rowUp w fd z9)]]) H := by simp only [rowUp, c_1, if_true, if_false]; exact hP
    have hD : va_D A (fl [[ob h 6 [.ref g, .ref a, .ref b, .ref d, .int (if w < 6 then w + 1 else w), .int (n9 + 1)]], [za ty g 3 fg], [ia ty a 6 (rowUp w fa p9)], [ia ty b 6 (rowUp w fb s9)], [ia ty d 6 (rowUp w fd z9)]]) := (D_same2 hD [h, g, a, b, d] rfl rfl)
    exact end_v (bs' := (fun (_ : Unit) => [[ob h 6 [.ref g, .ref a, .ref b, .ref d, .int (if w < 6 then w + 1 else w), .int (n9 + 1)]], [za ty g 3 fg], [ia ty a 6 (rowUp w fa p9)], [ia ty b 6 (rowUp w fb s9)], [ia ty d 6 (rowUp w fd z9)]])) () hx hb hr hlocks hP hD hS trivial (Nat.le_of_ble_eq_true rfl) (Nat.le_of_ble_eq_true rfl) dX7_add_19
set_option maxHeartbeats 4000000 in
set_option maxRecDepth 100000 in
theorem c_X7_tellRow (l : Launch) (D : va_G) (ty : Nat → ClassId) (h g a b d : Nat) (w n9 : Int32) (fg fa fb fd : Nat → Int32) (p9 z9 : Int32) (h0 : ¬ p9 < 0) (h6 : p9 < 6) : CTi l yX7_tellRow wsX7_tellRow ({ frames := 0, cells := 0, slots := 0, locals := 0 }) D ty [.ref h, .int p9, .int z9] [[ob h 6 [.ref g, .ref a, .ref b, .ref d, .int w, .int n9]], [za ty g 3 fg], [ia ty a 6 fa], [ia ty b 6 fb], [ia ty d 6 fd]] (fun (RET : Int32) (_ : Unit) => RET = (if z9 = 0 then fa p9.toNatClampNeg else if z9 = 1 then fb p9.toNatClampNeg else fd p9.toNatClampNeg)) (fun (_ : Unit) => [[ob h 6 [.ref g, .ref a, .ref b, .ref d, .int w, .int n9]], [za ty g 3 fg], [ia ty a 6 fa], [ia ty b 6 fb], [ia ty d 6 fd]]) := by
  refine CTi_of cX7_tellRow 3 (some .int) (by decide) rfl (Nat.le_of_ble_eq_true rfl) ?_
  intro p e s m args below meth c A hx hb hr hml hown hlocks hin hts hA hX hK hP hD ls hl
  have hown : s.vm.findClass RX7 = some m.cls := hown
  have hS : va_S A s.heap s.heap [] := va_S.rf
  have i_X7 : ∀ z ∈ wsX70, z ∈ wsX7_tellRow := fun z h => List.mem_cons_of_mem _ (List.mem_append_right _ h)
  have hl : lv_has ls 3 [(0, .ref h), (1, .int p9), (2, .int z9)] := hl
  refine lv_iload_n hx hb dX7_tellRow_0 rfl (lv_at hl 2 rfl) ?_
  rcases Classical.em (z9 = 0) with c_1 | c_1
  · refine lv_lookup (tgt := 28) (off := 27) hx hb dX7_tellRow_1 (by decide) (by first | (rw [c_1]; done) | (rw [c_1]; decide)) (by decide) ?_
    refine lv_aload_n hx hb dX7_tellRow_28 rfl (lv_at hl 0 rfl) ?_
    refine va_get (D := D) (ci := 6) (v := .ref a) (C := RX7) (T := TX7) (N := 6) hx hb hts i_X7 hown hK hP 0 rfl rfl 1 (by decide) (hts (Cond.fieldLink RX7 15 "BrownClock$Tampers" "rowPin" "[I") (List.mem_of_getElem? (i := 1) rfl)) (fun _ h9 => h9) rfl dX7_tellRow_29 ?_
    refine lv_iload_n hx hb dX7_tellRow_32 rfl (lv_at hl 1 rfl) ?_
    refine k_iald hx hb hK hP 2 rfl p9.toNatClampNeg (nI_self h0) (nI_ltn h0 (by decide) h6) (Nat.le_of_ble_eq_true rfl) (v := fa p9.toNatClampNeg) rfl dX7_tellRow_33 ?_
    have hP : va_P D vwCl (fl [[ob h 6 [.ref g, .ref a, .ref b, .ref d, .int w, .int n9]], [za ty g 3 fg], [ia ty a 6 fa], [ia ty b 6 fb], [ia ty d 6 fd]]) s.heap := hP
    have hD : va_D A (fl [[ob h 6 [.ref g, .ref a, .ref b, .ref d, .int w, .int n9]], [za ty g 3 fg], [ia ty a 6 fa], [ia ty b 6 fb], [ia ty d 6 fd]]) := hD
    exact end_i (bs' := (fun (_ : Unit) => [[ob h 6 [.ref g, .ref a, .ref b, .ref d, .int w, .int n9]], [za ty g 3 fg], [ia ty a 6 fa], [ia ty b 6 fb], [ia ty d 6 fd]])) () hx hb hr hlocks hP hD hS (by first | rfl | decide | simp [c_1]) (Nat.le_of_ble_eq_true rfl) (Nat.le_of_ble_eq_true rfl) dX7_tellRow_34
  rcases Classical.em (z9 = 1) with c_2 | c_2
  · refine lv_lookup (tgt := 35) (off := 34) hx hb dX7_tellRow_1 (by decide) (by first | (rw [c_2]; done) | (rw [c_2]; decide)) (by decide) ?_
    refine lv_aload_n hx hb dX7_tellRow_35 rfl (lv_at hl 0 rfl) ?_
    refine va_get (D := D) (ci := 6) (v := .ref b) (C := RX7) (T := TX7) (N := 6) hx hb hts i_X7 hown hK hP 0 rfl rfl 2 (by decide) (hts (Cond.fieldLink RX7 19 "BrownClock$Tampers" "rowSeconds" "[I") (List.mem_of_getElem? (i := 2) rfl)) (fun _ h9 => h9) rfl dX7_tellRow_36 ?_
    refine lv_iload_n hx hb dX7_tellRow_39 rfl (lv_at hl 1 rfl) ?_
    refine k_iald hx hb hK hP 3 rfl p9.toNatClampNeg (nI_self h0) (nI_ltn h0 (by decide) h6) (Nat.le_of_ble_eq_true rfl) (v := fb p9.toNatClampNeg) rfl dX7_tellRow_40 ?_
    have hP : va_P D vwCl (fl [[ob h 6 [.ref g, .ref a, .ref b, .ref d, .int w, .int n9]], [za ty g 3 fg], [ia ty a 6 fa], [ia ty b 6 fb], [ia ty d 6 fd]]) s.heap := hP
    have hD : va_D A (fl [[ob h 6 [.ref g, .ref a, .ref b, .ref d, .int w, .int n9]], [za ty g 3 fg], [ia ty a 6 fa], [ia ty b 6 fb], [ia ty d 6 fd]]) := hD
    exact end_i (bs' := (fun (_ : Unit) => [[ob h 6 [.ref g, .ref a, .ref b, .ref d, .int w, .int n9]], [za ty g 3 fg], [ia ty a 6 fa], [ia ty b 6 fb], [ia ty d 6 fd]])) () hx hb hr hlocks hP hD hS (by first | rfl | decide | simp [c_1, c_2]) (Nat.le_of_ble_eq_true rfl) (Nat.le_of_ble_eq_true rfl) dX7_tellRow_41
  refine lv_lookup (tgt := 42) (off := 41) hx hb dX7_tellRow_1 (by decide) ((lv_osw c_1 (by decide)).trans ((lv_osw c_2 (by decide)).trans (rfl))) (by decide) ?_
  refine lv_aload_n hx hb dX7_tellRow_42 rfl (lv_at hl 0 rfl) ?_
  refine va_get (D := D) (ci := 6) (v := .ref d) (C := RX7) (T := TX7) (N := 6) hx hb hts i_X7 hown hK hP 0 rfl rfl 3 (by decide) (hts (Cond.fieldLink RX7 22 "BrownClock$Tampers" "rowDomain" "[I") (List.mem_of_getElem? (i := 3) rfl)) (fun _ h9 => h9) rfl dX7_tellRow_43 ?_
  refine lv_iload_n hx hb dX7_tellRow_46 rfl (lv_at hl 1 rfl) ?_
  refine k_iald hx hb hK hP 4 rfl p9.toNatClampNeg (nI_self h0) (nI_ltn h0 (by decide) h6) (Nat.le_of_ble_eq_true rfl) (v := fd p9.toNatClampNeg) rfl dX7_tellRow_47 ?_
  have hP : va_P D vwCl (fl [[ob h 6 [.ref g, .ref a, .ref b, .ref d, .int w, .int n9]], [za ty g 3 fg], [ia ty a 6 fa], [ia ty b 6 fb], [ia ty d 6 fd]]) s.heap := hP
  have hD : va_D A (fl [[ob h 6 [.ref g, .ref a, .ref b, .ref d, .int w, .int n9]], [za ty g 3 fg], [ia ty a 6 fa], [ia ty b 6 fb], [ia ty d 6 fd]]) := hD
  exact end_i (bs' := (fun (_ : Unit) => [[ob h 6 [.ref g, .ref a, .ref b, .ref d, .int w, .int n9]], [za ty g 3 fg], [ia ty a 6 fa], [ia ty b 6 fb], [ia ty d 6 fd]])) () hx hb hr hlocks hP hD hS (by first | rfl | decide | simp [c_1, c_2]) (Nat.le_of_ble_eq_true rfl) (Nat.le_of_ble_eq_true rfl) dX7_tellRow_48
