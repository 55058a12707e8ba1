set_option maxHeartbeats 4000000 in
set_option maxRecDepth 100000 in
theorem c_X4_init (l : Launch) (D : va_G) (ty : Nat → ClassId) (h : Nat) : CTv l yX4_init wsX4_init ({ frames := 4, cells := 32, slots := 148, locals := 83 }) D ty [.ref h] [[ob h 3 [.null, .null]]] (fun (u : Nat × Nat × (Nat → Nat → Nat)) => match u with | (ss, sf, bd) => True) (fun (u : Nat × Nat × (Nat → Nat → Nat)) => match u with | (ss, sf, bd) => [[ob h 3 [.ref ss, .ref sf]], [sa ty ss 2 (fun k => some (bd k 0))], [za ty sf 2 (fun _ => 0)], (stW ty (bd 0) p0 0 0 (fun _ _ => 0)), (stW ty (bd 1) p0 0 0 (fun _ _ => 0))]) := by
  refine CTv_of cX4_init 2 none (by decide) rfl (Nat.le_of_ble_eq_true rfl) ?_
  intro p e s m args below meth c A hx hb hr hml hown hlocks hin hts hA hX hK hP hD ls hl
  have hown : s.vm.findClass RX4 = some m.cls := hown
  have hS : va_S A s.heap s.heap [] := va_S.rf
  have i_X4 : ∀ z ∈ wsX40, z ∈ wsX4_init := fun z h => List.mem_cons_of_mem _ (List.mem_append_left _ (List.mem_append_left _ (List.mem_append_left _ (List.mem_append_left _ (List.mem_append_left _ (List.mem_append_right _ h))))))
  have i_X5 : ∀ z ∈ wsX50, z ∈ wsX4_init := fun z h => List.mem_cons_of_mem _ (List.mem_append_left _ (List.mem_append_left _ (List.mem_append_left _ (List.mem_append_left _ (List.mem_append_right _ h)))))
  have hl : lv_has ls 2 [(0, .ref h)] := hl
  refine lv_aload_n hx hb dX4_init_0 rfl (lv_at hl 0 rfl) ?_
  refine W.objInit hx hb hown (hts (Cond.methodLink RX4 3 objectInit) (List.mem_of_getElem? (i := 1) rfl)) (hts (Cond.instanceMethod objectInit) (List.mem_of_getElem? (i := 2) rfl)) (hts _ (List.mem_of_getElem? (i := 3) rfl)) rfl (by rw [hml]; exact hl.1) rfl dX4_init_1 (Nat.le_of_ble_eq_true rfl) (Nat.le_of_ble_eq_true rfl) ?_
  refine W.eq (g2 := F0 m 4 ls []) rfl ?_
  refine lv_aload_n hx hb dX4_init_4 rfl (lv_at hl 0 rfl) ?_
  refine lv_iconst (v := 2) hx hb dX4_init_5 (by decide) ?_
  refine k_newS (n := 2) hx hb hown (hts (Cond.classLink RX4 9 RX5) (List.mem_of_getElem? (i := 4) rfl)) hX.1.1.1 hK hP hD hS hA rfl (by decide) (Nat.le_of_ble_eq_true rfl) (Nat.le_of_ble_eq_true rfl) dX4_init_6 (fun q_1 H hP hD hS => ?_)
  rw [fl_push] at hP hD
  have hP : va_P D vwCl (fl [[ob h 3 [.null, .null]], [sa ty q_1 2 (fun _ => none)]]) H := hP
  have hD : va_D A (fl [[ob h 3 [.null, .null]], [sa ty q_1 2 (fun _ => none)]]) := hD
  refine va_putF (D := D) (ci := 3) (v := .ref q_1) (ty := .array (.object "BrownClock$State")) (C := RX4) (T := TX4) (N := 2) hx hb hts i_X4 tyX4 tyX4_ok nmX4 hown hK hP hD hS 0 rfl rfl 0 (by decide) (hts (Cond.fieldLink RX4 11 "BrownClock$Slots" "states" "[LBrownClock$State;") (List.mem_of_getElem? (i := 5) rfl)) (fun _ h9 => h9) rfl hin rfl (by decide +kernel) rfl rfl (Nat.le_of_ble_eq_true rfl) dX4_init_9 (fun H locs hP hD hS => ?_)
  have hP : va_P D vwCl (fl [[ob h 3 [.ref q_1, .null]], [sa ty q_1 2 (fun _ => none)]]) H := hP
  have hD : va_D A (fl [[ob h 3 [.ref q_1, .null]], [sa ty q_1 2 (fun _ => none)]]) := hD
  refine lv_aload_n hx hb dX4_init_12 rfl (lv_at hl 0 rfl) ?_
  refine lv_iconst (v := 2) hx hb dX4_init_13 (by decide) ?_
  refine k_newz (n := 2) hx hb (hts (Cond.arrayClass .boolean) (List.mem_of_getElem? (i := 6) rfl)) hK hP hD hS hA rfl (by decide) (Nat.le_of_ble_eq_true rfl) (Nat.le_of_ble_eq_true rfl) dX4_init_14 (fun q_2 H hP hD hS => ?_)
  rw [fl_push] at hP hD
  have hP : va_P D vwCl (fl [[ob h 3 [.ref q_1, .null]], [sa ty q_1 2 (fun _ => none)], [za ty q_2 2 (fun _ => 0)]]) H := hP
  have hD : va_D A (fl [[ob h 3 [.ref q_1, .null]], [sa ty q_1 2 (fun _ => none)], [za ty q_2 2 (fun _ => 0)]]) := hD
  refine va_putF (D := D) (ci := 3) (v := .ref q_2) (ty := .array (.boolean)) (C := RX4) (T := TX4) (N := 2) hx hb hts i_X4 tyX4 tyX4_ok nmX4 hown hK hP hD hS 0 rfl rfl 1 (by decide) (hts (Cond.fieldLink RX4 17 "BrownClock$Slots" "full" "[Z") (List.mem_of_getElem? (i := 7) rfl)) (fun _ h9 => h9) rfl hin rfl (by decide +kernel) rfl rfl (Nat.le_of_ble_eq_true rfl) dX4_init_16 (fun H locs hP hD hS => ?_)
  have hP : va_P D vwCl (fl [[ob h 3 [.ref q_1, .ref q_2]], [sa ty q_1 2 (fun _ => none)], [za ty q_2 2 (fun _ => 0)]]) H := hP
  have hD : va_D A (fl [[ob h 3 [.ref q_1, .ref q_2]], [sa ty q_1 2 (fun _ => none)], [za ty q_2 2 (fun _ => 0)]]) := hD
  refine lv_iconst (v := 0) hx hb dX4_init_19 (by decide) ?_
  refine lv_istore_n (lv' := [(1, .int 0), (0, .ref h)]) hx hb dX4_init_20 rfl hl (by decide) rfl (fun ls hl => ?_)
  refine lv_iload_n hx hb dX4_init_21 rfl (lv_at hl 0 rfl) ?_
  refine lv_aload_n hx hb dX4_init_22 rfl (lv_at hl 1 rfl) ?_
  refine va_get (D := D) (ci := 3) (v := .ref q_1) (C := RX4) (T := TX4) (N := 2) hx hb hts i_X4 hown hK hP 0 rfl rfl 0 (by decide) (hts (Cond.fieldLink RX4 11 "BrownClock$Slots" "states" "[LBrownClock$State;") (List.mem_of_getElem? (i := 5) rfl)) (fun _ h9 => h9) rfl dX4_init_23 ?_
  refine va_alen hx hb hK hP 1 3 rfl rfl (v := 2) rfl dX4_init_26 ?_
  refine lv_icmp_ge (tgt := 49) hx hb dX4_init_27 (by decide) (fun c_3 => ?_) (fun c_3 => ?_)
  · exact absurd c_3 (by decide)
  · skip
    refine lv_aload_n hx hb dX4_init_30 rfl (lv_at hl 1 rfl) ?_
    refine va_get (D := D) (ci := 3) (v := .ref q_1) (C := RX4) (T := TX4) (N := 2) hx hb hts i_X4 hown hK hP 0 rfl rfl 0 (by decide) (hts (Cond.fieldLink RX4 11 "BrownClock$Slots" "states" "[LBrownClock$State;") (List.mem_of_getElem? (i := 5) rfl)) (fun _ h9 => h9) rfl dX4_init_31 ?_
    refine lv_iload_n hx hb dX4_init_34 rfl (lv_at hl 0 rfl) ?_
    refine va_new (ci := 4) (fs := [.null, .null, .null, .null, .null, .int 0]) (C := RX5) (T := TX5) (N := 6) hx hb hts i_X5 tyX5 tyX5_ok hown (hts (Cond.classLink RX4 9 RX5) (List.mem_of_getElem? (i := 4) rfl)) (hts (Cond.instantiable RX5 6) (List.mem_of_getElem? (i := 8) rfl)) (hts (Cond.initialized RX5) (List.mem_of_getElem? (i := 9) rfl)) hK hP hD hS hA rfl (fun j hj => by match j, hj with | 0, _ => rfl | 1, _ => rfl | 2, _ => rfl | 3, _ => rfl | 4, _ => rfl | 5, _ => rfl) (Nat.le_of_ble_eq_true rfl) (Nat.le_of_ble_eq_true rfl) dX4_init_35 (fun q_4 H hP hD hS => ?_)
    rw [fl_push] at hP hD
    have hP : va_P D vwCl (fl [[ob h 3 [.ref q_1, .ref q_2]], [sa ty q_1 2 (fun _ => none)], [za ty q_2 2 (fun _ => 0)], [ob q_4 4 [.null, .null, .null, .null, .null, .int 0]]]) H := hP
    have hD : va_D A (fl [[ob h 3 [.ref q_1, .ref q_2]], [sa ty q_1 2 (fun _ => none)], [za ty q_2 2 (fun _ => 0)], [ob q_4 4 [.null, .null, .null, .null, .null, .int 0]]]) := hD
    refine lv_dup hx hb dX4_init_38 rfl ?_
    refine cIv (As := []) (rest := [.ref q_4, .int 0, .ref q_1]) ⟨hx, hb, hml, hown, hts⟩ (c_X5_init l D ty q_4) (cwI 0 hts gX4_init_X5_init rfl rfl rfl (hts (Cond.initialized RX5) (List.mem_of_getElem? (i := 9) rfl)) (hts (Cond.methodLink RX4 21 yX5_init) (List.mem_of_getElem? (i := 10) rfl)) (hts (Cond.instanceMethod yX5_init) (List.mem_of_getElem? (i := 11) rfl)) rfl (by decide +kernel) ⟨Nat.le_of_ble_eq_true rfl, Nat.le_of_ble_eq_true rfl⟩) hK hX hP hD hS hA (pk (bs := [[ob h 3 [.ref q_1, .ref q_2]], [sa ty q_1 2 (fun _ => none)], [za ty q_2 2 (fun _ => 0)], [ob q_4 4 [.null, .null, .null, .null, .null, .int 0]]]) (bsc := [[ob q_4 4 [.null, .null, .null, .null, .null, .int 0]]]) (bsr := [[ob h 3 [.ref q_1, .ref q_2]], [sa ty q_1 2 (fun _ => none)], [za ty q_2 2 (fun _ => 0)]]) [3] [0, 1, 2] 4 rfl (by decide +kernel) rfl rfl) rfl hl.1 rfl (Nat.le_of_ble_eq_true rfl) dX4_init_39 ⟨Nat.le_of_ble_eq_true rfl, Nat.le_of_ble_eq_true rfl⟩ (fun u_5 h_7 H locs hP hD hS => ?_)
    obtain ⟨a_8, rfl⟩ : ∃ z, z = u_5 := ⟨_, rfl⟩
    have h_9 : a_8 0 = q_4 := h_7
    have hP : va_P D vwCl (fl [[ob h 3 [.ref q_1, .ref q_2]], [sa ty q_1 2 (fun _ => none)], [za ty q_2 2 (fun _ => 0)], (stW ty a_8 p0 0 0 (fun _ _ => 0))]) H := P_perm (po (bs := [(stW ty a_8 p0 0 0 (fun _ _ => 0)), [ob h 3 [.ref q_1, .ref q_2]], [sa ty q_1 2 (fun _ => none)], [za ty q_2 2 (fun _ => 0)]]) [1, 2, 3, 0] 4 rfl (by decide +kernel) rfl) hP
    have hD : va_D A (fl [[ob h 3 [.ref q_1, .ref q_2]], [sa ty q_1 2 (fun _ => none)], [za ty q_2 2 (fun _ => 0)], (stW ty a_8 p0 0 0 (fun _ _ => 0))]) := D_perm (po (bs := [(stW ty a_8 p0 0 0 (fun _ _ => 0)), [ob h 3 [.ref q_1, .ref q_2]], [sa ty q_1 2 (fun _ => none)], [za ty q_2 2 (fun _ => 0)]]) [1, 2, 3, 0] 4 rfl (by decide +kernel) rfl) hD
    have hPn := hP
    have hDn := hD
    have hSn := hS
    subst h_9
    have hP := hPn
    have hD := hDn
    have hS := hSn
    refine k_sast hx hb hK hP hD hS 1 3 rfl rfl 0 rfl (by decide) (Nat.le_of_ble_eq_true rfl) dX4_init_42 (fun H locs hP hD hS => ?_)
    have hP : va_P D vwCl (fl [[ob h 3 [.ref q_1, .ref q_2]], [sa ty q_1 2 (va_up (fun _ => none) 0 (some (a_8 0)))], [za ty q_2 2 (fun _ => 0)], (stW ty a_8 p0 0 0 (fun _ _ => 0))]) H := hP
    have hD : va_D A (fl [[ob h 3 [.ref q_1, .ref q_2]], [sa ty q_1 2 (va_up (fun _ => none) 0 (some (a_8 0)))], [za ty q_2 2 (fun _ => 0)], (stW ty a_8 p0 0 0 (fun _ _ => 0))]) := hD
    refine lv_iinc (v := 1) (lv' := [(1, .int 1), (0, .ref h)]) hx hb dX4_init_43 hl (k := 0) rfl (by decide) (by decide) rfl (fun ls hl => ?_)
    refine lv_goto (tgt := 21) hx hb dX4_init_46 (by decide) ?_
    refine lv_iload_n hx hb dX4_init_21 rfl (lv_at hl 0 rfl) ?_
    refine lv_aload_n hx hb dX4_init_22 rfl (lv_at hl 1 rfl) ?_
    refine va_get (D := D) (ci := 3) (v := .ref q_1) (C := RX4) (T := TX4) (N := 2) hx hb hts i_X4 hown hK hP 0 rfl rfl 0 (by decide) (hts (Cond.fieldLink RX4 11 "BrownClock$Slots" "states" "[LBrownClock$State;") (List.mem_of_getElem? (i := 5) rfl)) (fun _ h9 => h9) rfl dX4_init_23 ?_
    refine va_alen hx hb hK hP 1 3 rfl rfl (v := 2) rfl dX4_init_26 ?_
    refine lv_icmp_ge (tgt := 49) hx hb dX4_init_27 (by decide) (fun c_10 => ?_) (fun c_10 => ?_)
    · exact absurd c_10 (by decide)
    · skip
      refine lv_aload_n hx hb dX4_init_30 rfl (lv_at hl 1 rfl) ?_
      refine va_get (D := D) (ci := 3) (v := .ref q_1) (C := RX4) (T := TX4) (N := 2) hx hb hts i_X4 hown hK hP 0 rfl rfl 0 (by decide) (hts (Cond.fieldLink RX4 11 "BrownClock$Slots" "states" "[LBrownClock$State;") (List.mem_of_getElem? (i := 5) rfl)) (fun _ h9 => h9) rfl dX4_init_31 ?_
      refine lv_iload_n hx hb dX4_init_34 rfl (lv_at hl 0 rfl) ?_
      refine va_new (ci := 4) (fs := [.null, .null, .null, .null, .null, .int 0]) (C := RX5) (T := TX5) (N := 6) hx hb hts i_X5 tyX5 tyX5_ok hown (hts (Cond.classLink RX4 9 RX5) (List.mem_of_getElem? (i := 4) rfl)) (hts (Cond.instantiable RX5 6) (List.mem_of_getElem? (i := 8) rfl)) (hts (Cond.initialized RX5) (List.mem_of_getElem? (i := 9) rfl)) hK hP hD hS hA rfl (fun j hj => by match j, hj with | 0, _ => rfl | 1, _ => rfl | 2, _ => rfl | 3, _ => rfl | 4, _ => rfl | 5, _ => rfl) (Nat.le_of_ble_eq_true rfl) (Nat.le_of_ble_eq_true rfl) dX4_init_35 (fun q_11 H hP hD hS => ?_)
      rw [fl_push] at hP hD
      have hP : va_P D vwCl (fl [[ob h 3 [.ref q_1, .ref q_2]], [sa ty q_1 2 (va_up (fun _ => none) 0 (some (a_8 0)))], [za ty q_2 2 (fun _ => 0)], (stW ty a_8 p0 0 0 (fun _ _ => 0)), [ob q_11 4 [.null, .null, .null, .null, .null, .int 0]]]) H := hP
      have hD : va_D A (fl [[ob h 3 [.ref q_1, .ref q_2]], [sa ty q_1 2 (va_up (fun _ => none) 0 (some (a_8 0)))], [za ty q_2 2 (fun _ => 0)], (stW ty a_8 p0 0 0 (fun _ _ => 0)), [ob q_11 4 [.null, .null, .null, .null, .null, .int 0]]]) := hD
      refine lv_dup hx hb dX4_init_38 rfl ?_
      refine cIv (As := []) (rest := [.ref q_11, .int 1, .ref q_1]) ⟨hx, hb, hml, hown, hts⟩ (c_X5_init l D ty q_11) (cwI 0 hts gX4_init_X5_init rfl rfl rfl (hts (Cond.initialized RX5) (List.mem_of_getElem? (i := 9) rfl)) (hts (Cond.methodLink RX4 21 yX5_init) (List.mem_of_getElem? (i := 10) rfl)) (hts (Cond.instanceMethod yX5_init) (List.mem_of_getElem? (i := 11) rfl)) rfl (by decide +kernel) ⟨Nat.le_of_ble_eq_true rfl, Nat.le_of_ble_eq_true rfl⟩) hK hX hP hD hS hA (pk (bs := [[ob h 3 [.ref q_1, .ref q_2]], [sa ty q_1 2 (va_up (fun _ => none) 0 (some (a_8 0)))], [za ty q_2 2 (fun _ => 0)], (stW ty a_8 p0 0 0 (fun _ _ => 0)), [ob q_11 4 [.null, .null, .null, .null, .null, .int 0]]]) (bsc := [[ob q_11 4 [.null, .null, .null, .null, .null, .int 0]]]) (bsr := [[ob h 3 [.ref q_1, .ref q_2]], [sa ty q_1 2 (va_up (fun _ => none) 0 (some (a_8 0)))], [za ty q_2 2 (fun _ => 0)], (stW ty a_8 p0 0 0 (fun _ _ => 0))]) [4] [0, 1, 2, 3] 5 rfl (by decide +kernel) rfl rfl) rfl hl.1 rfl (Nat.le_of_ble_eq_true rfl) dX4_init_39 ⟨Nat.le_of_ble_eq_true rfl, Nat.le_of_ble_eq_true rfl⟩ (fun u_12 h_14 H locs hP hD hS => ?_)
      obtain ⟨a_15, rfl⟩ : ∃ z, z = u_12 := ⟨_, rfl⟩
      have h_16 : a_15 0 = q_11 := h_14
      have hP : va_P D vwCl (fl [[ob h 3 [.ref q_1, .ref q_2]], [sa ty q_1 2 (va_up (fun _ => none) 0 (some (a_8 0)))], [za ty q_2 2 (fun _ => 0)], (stW ty a_8 p0 0 0 (fun _ _ => 0)), (stW ty a_15 p0 0 0 (fun _ _ => 0))]) H := P_perm (po (bs := [(stW ty a_15 p0 0 0 (fun _ _ => 0)), [ob h 3 [.ref q_1, .ref q_2]], [sa ty q_1 2 (va_up (fun _ => none) 0 (some (a_8 0)))], [za ty q_2 2 (fun _ => 0)], (stW ty a_8 p0 0 0 (fun _ _ => 0))]) [1, 2, 3, 4, 0] 5 rfl (by decide +kernel) rfl) hP
      have hD : va_D A (fl [[ob h 3 [.ref q_1, .ref q_2]], [sa ty q_1 2 (va_up (fun _ => none) 0 (some (a_8 0)))], [za ty q_2 2 (fun _ => 0)], (stW ty a_8 p0 0 0 (fun _ _ => 0)), (stW ty a_15 p0 0 0 (fun _ _ => 0))]) := D_perm (po (bs := [(stW ty a_15 p0 0 0 (fun _ _ => 0)), [ob h 3 [.ref q_1, .ref q_2]], [sa ty q_1 2 (va_up (fun _ => none) 0 (some (a_8 0)))], [za ty q_2 2 (fun _ => 0)], (stW ty a_8 p0 0 0 (fun _ _ => 0))]) [1, 2, 3, 4, 0] 5 rfl (by decide +kernel) rfl) hD
      have hPn := hP
      have hDn := hD
      have hSn := hS
      subst h_16
      have hP := hPn
      have hD := hDn
      have hS := hSn
      refine k_sast hx hb hK hP hD hS 1 18 rfl rfl 1 rfl (by decide) (Nat.le_of_ble_eq_true rfl) dX4_init_42 (fun H locs hP hD hS => ?_)
      have hP : va_P D vwCl (fl [[ob h 3 [.ref q_1, .ref q_2]], [sa ty q_1 2 (va_up (va_up (fun _ => none) 0 (some (a_8 0))) 1 (some (a_15 0)))], [za ty q_2 2 (fun _ => 0)], (stW ty a_8 p0 0 0 (fun _ _ => 0)), (stW ty a_15 p0 0 0 (fun _ _ => 0))]) H := hP
      have hD : va_D A (fl [[ob h 3 [.ref q_1, .ref q_2]], [sa ty q_1 2 (va_up (va_up (fun _ => none) 0 (some (a_8 0))) 1 (some (a_15 0)))], [za ty q_2 2 (fun _ => 0)], (stW ty a_8 p0 0 0 (fun _ _ => 0)), (stW ty a_15 p0 0 0 (fun _ _ => 0))]) := hD
      refine lv_iinc (v := 2) (lv' := [(1, .int 2), (0, .ref h)]) hx hb dX4_init_43 hl (k := 0) rfl (by decide) (by decide) rfl (fun ls hl => ?_)
      refine lv_goto (tgt := 21) hx hb dX4_init_46 (by decide) ?_
      refine lv_iload_n hx hb dX4_init_21 rfl (lv_at hl 0 rfl) ?_
      refine lv_aload_n hx hb dX4_init_22 rfl (lv_at hl 1 rfl) ?_
      refine va_get (D := D) (ci := 3) (v := .ref q_1) (C := RX4) (T := TX4) (N := 2) hx hb hts i_X4 hown hK hP 0 rfl rfl 0 (by decide) (hts (Cond.fieldLink RX4 11 "BrownClock$Slots" "states" "[LBrownClock$State;") (List.mem_of_getElem? (i := 5) rfl)) (fun _ h9 => h9) rfl dX4_init_23 ?_
      refine va_alen hx hb hK hP 1 3 rfl rfl (v := 2) rfl dX4_init_26 ?_
      refine lv_icmp_ge (tgt := 49) hx hb dX4_init_27 (by decide) (fun c_17 => ?_) (fun c_17 => ?_)
      · skip
        have hP : va_P D vwCl (fl [[ob h 3 [.ref q_1, .ref q_2]], [sa ty q_1 2 (fun k => some ((adL [a_8, a_15]) k 0))], [za ty q_2 2 (fun _ => 0)], (stW ty ((adL [a_8, a_15]) 0) p0 0 0 (fun _ _ => 0)), (stW ty ((adL [a_8, a_15]) 1) p0 0 0 (fun _ _ => 0))]) H := P_at (e1 := sa ty q_1 2 (va_up (va_up (fun _ => none) 0 (some (a_8 0))) 1 (some (a_15 0)))) (e2 := sa ty q_1 2 (fun k => some ((adL [a_8, a_15]) k 0))) 1 (at_sa (fun k hk => by match k, hk with | 0, _ => rfl | 1, _ => rfl)) rfl rfl hP
        have hD : va_D A (fl [[ob h 3 [.ref q_1, .ref q_2]], [sa ty q_1 2 (fun k => some ((adL [a_8, a_15]) k 0))], [za ty q_2 2 (fun _ => 0)], (stW ty ((adL [a_8, a_15]) 0) p0 0 0 (fun _ _ => 0)), (stW ty ((adL [a_8, a_15]) 1) p0 0 0 (fun _ _ => 0))]) := D_rep 1 [sa ty q_1 2 (va_up (va_up (fun _ => none) 0 (some (a_8 0))) 1 (some (a_15 0)))] [sa ty q_1 2 (fun k => some ((adL [a_8, a_15]) k 0))] rfl rfl hD
        have hD : va_D A (fl [[ob h 3 [.ref q_1, .ref q_2]], [sa ty q_1 2 (fun k => some ((adL [a_8, a_15]) k 0))], [za ty q_2 2 (fun _ => 0)], (stW ty ((adL [a_8, a_15]) 0) p0 0 0 (fun _ _ => 0)), (stW ty ((adL [a_8, a_15]) 1) p0 0 0 (fun _ _ => 0))]) := hD
        exact end_v (bs' := (fun (u : Nat × Nat × (Nat → Nat → Nat)) => match u with | (ss, sf, bd) => [[ob h 3 [.ref ss, .ref sf]], [sa ty ss 2 (fun k => some (bd k 0))], [za ty sf 2 (fun _ => 0)], (stW ty (bd 0) p0 0 0 (fun _ _ => 0)), (stW ty (bd 1) p0 0 0 (fun _ _ => 0))])) (q_1, q_2, (adL [a_8, a_15])) hx hb hr hlocks hP hD hS trivial (Nat.le_of_ble_eq_true rfl) (Nat.le_of_ble_eq_true rfl) dX4_init_49
      · exact absurd (by decide) c_17
set_option maxHeartbeats 4000000 in
set_option maxRecDepth 100000 in
theorem c_X4_empty (l : Launch) (D : va_G) (ty : Nat → ClassId) (h ss sf : Nat) (kf : Nat → Int32) : CTv l yX4_empty wsX4_empty ({ frames := 0, cells := 0, slots := 0, locals := 0 }) D ty [.ref h] [[ob h 3 [.ref ss, .ref sf]], [za ty sf 2 kf]] (fun (_ : Unit) => True) (fun (_ : Unit) => [[ob h 3 [.ref ss, .ref sf]], [za ty sf 2 (fun _ => 0)]]) := by
  refine CTv_of cX4_empty 2 none (by decide) rfl (Nat.le_of_ble_eq_true rfl) ?_
  intro p e s m args below meth c A hx hb hr hml hown hlocks hin hts hA hX hK hP hD ls hl
  have hown : s.vm.findClass RX4 = some m.cls := hown
  have hS : va_S A s.heap s.heap [] := va_S.rf
  have i_X4 : ∀ z ∈ wsX40, z ∈ wsX4_empty := fun z h => List.mem_cons_of_mem _ (List.mem_append_right _ h)
  have hl : lv_has ls 2 [(0, .ref h)] := hl
  refine lv_iconst (v := 0) hx hb dX4_empty_0 (by decide) ?_
  refine lv_istore_n (lv' := [(1, .int 0), (0, .ref h)]) hx hb dX4_empty_1 rfl hl (by decide) rfl (fun ls hl => ?_)
  refine lv_iload_n hx hb dX4_empty_2 rfl (lv_at hl 0 rfl) ?_
  refine lv_aload_n hx hb dX4_empty_3 rfl (lv_at hl 1 rfl) ?_
  refine va_get (D := D) (ci := 3) (v := .ref sf) (C := RX4) (T := TX4) (N := 2) hx hb hts i_X4 hown hK hP 0 rfl rfl 1 (by decide) (hts (Cond.fieldLink RX4 17 "BrownClock$Slots" "full" "[Z") (List.mem_of_getElem? (i := 1) rfl)) (fun _ h9 => h9) rfl dX4_empty_4 ?_
  refine va_alen hx hb hK hP 1 2 rfl rfl (v := 2) rfl dX4_empty_7 ?_
  refine lv_icmp_ge (tgt := 24) hx hb dX4_empty_8 (by decide) (fun c_1 => ?_) (fun c_1 => ?_)
  · exact absurd c_1 (by decide)
  · skip
    refine lv_aload_n hx hb dX4_empty_11 rfl (lv_at hl 1 rfl) ?_
    refine va_get (D := D) (ci := 3) (v := .ref sf) (C := RX4) (T := TX4) (N := 2) hx hb hts i_X4 hown hK hP 0 rfl rfl 1 (by decide) (hts (Cond.fieldLink RX4 17 "BrownClock$Slots" "full" "[Z") (List.mem_of_getElem? (i := 1) rfl)) (fun _ h9 => h9) rfl dX4_empty_12 ?_
    refine lv_iload_n hx hb dX4_empty_15 rfl (lv_at hl 0 rfl) ?_
    refine lv_iconst (v := 0) hx hb dX4_empty_16 (by decide) ?_
    refine k_zast hx hb hK hP hD hS 1 rfl 0 rfl (by decide) (Nat.le_of_ble_eq_true rfl) rfl dX4_empty_17 (fun H locs hP hD hS => ?_)
    have hP : va_P D vwCl (fl [[ob h 3 [.ref ss, .ref sf]], [za ty sf 2 (upd kf 0 0)]]) H := hP
    have hD : va_D A (fl [[ob h 3 [.ref ss, .ref sf]], [za ty sf 2 (upd kf 0 0)]]) := hD
    refine lv_iinc (v := 1) (lv' := [(1, .int 1), (0, .ref h)]) hx hb dX4_empty_18 hl (k := 0) rfl (by decide) (by decide) rfl (fun ls hl => ?_)
    refine lv_goto (tgt := 2) hx hb dX4_empty_21 (by decide) ?_
    refine lv_iload_n hx hb dX4_empty_2 rfl (lv_at hl 0 rfl) ?_
    refine lv_aload_n hx hb dX4_empty_3 rfl (lv_at hl 1 rfl) ?_
    refine va_get (D := D) (ci := 3) (v := .ref sf) (C := RX4) (T := TX4) (N := 2) hx hb hts i_X4 hown hK hP 0 rfl rfl 1 (by decide) (hts (Cond.fieldLink RX4 17 "BrownClock$Slots" "full" "[Z") (List.mem_of_getElem? (i := 1) rfl)) (fun _ h9 => h9) rfl dX4_empty_4 ?_
    refine va_alen hx hb hK hP 1 2 rfl rfl (v := 2) rfl dX4_empty_7 ?_
    refine lv_icmp_ge (tgt := 24) hx hb dX4_empty_8 (by decide) (fun c_2 => ?_) (fun c_2 => ?_)
    · exact absurd c_2 (by decide)
    · skip
      refine lv_aload_n hx hb dX4_empty_11 rfl (lv_at hl 1 rfl) ?_
      refine va_get (D := D) (ci := 3) (v := .ref sf) (C := RX4) (T := TX4) (N := 2) hx hb hts i_X4 hown hK hP 0 rfl rfl 1 (by decide) (hts (Cond.fieldLink RX4 17 "BrownClock$Slots" "full" "[Z") (List.mem_of_getElem? (i := 1) rfl)) (fun _ h9 => h9) rfl dX4_empty_12 ?_
      refine lv_iload_n hx hb dX4_empty_15 rfl (lv_at hl 0 rfl) ?_
      refine lv_iconst (v := 0) hx hb dX4_empty_16 (by decide) ?_
      refine k_zast hx hb hK hP hD hS 1 rfl 1 rfl (by decide) (Nat.le_of_ble_eq_true rfl) rfl dX4_empty_17 (fun H locs hP hD hS => ?_)
      have hP : va_P D vwCl (fl [[ob h 3 [.ref ss, .ref sf]], [za ty sf 2 (upd (upd kf 0 0) 1 0)]]) H := hP
      have hD : va_D A (fl [[ob h 3 [.ref ss, .ref sf]], [za ty sf 2 (upd (upd kf 0 0) 1 0)]]) := hD
      refine lv_iinc (v := 2) (lv' := [(1, .int 2), (0, .ref h)]) hx hb dX4_empty_18 hl (k := 0) rfl (by decide) (by decide) rfl (fun ls hl => ?_)
      refine lv_goto (tgt := 2) hx hb dX4_empty_21 (by decide) ?_
      refine lv_iload_n hx hb dX4_empty_2 rfl (lv_at hl 0 rfl) ?_
      refine lv_aload_n hx hb dX4_empty_3 rfl (lv_at hl 1 rfl) ?_
      refine va_get (D := D) (ci := 3) (v := .ref sf) (C := RX4) (T := TX4) (N := 2) hx hb hts i_X4 hown hK hP 0 rfl rfl 1 (by decide) (hts (Cond.fieldLink RX4 17 "BrownClock$Slots" "full" "[Z") (List.mem_of_getElem? (i := 1) rfl)) (fun _ h9 => h9) rfl dX4_empty_4 ?_
      refine va_alen hx hb hK hP 1 2 rfl rfl (v := 2) rfl dX4_empty_7 ?_
      refine lv_icmp_ge (tgt := 24) hx hb dX4_empty_8 (by decide) (fun c_3 => ?_) (fun c_3 => ?_)
      · skip
        have hP : va_P D vwCl (fl [[ob h 3 [.ref ss, .ref sf]], [za ty sf 2 (fun _ => 0)]]) H := by
          obtain ⟨z0, hP⟩ := P_cons.mp hP
          obtain ⟨z1, hP⟩ := P_cons.mp hP
          exact P_cons.mpr ⟨z0, P_cons.mpr ⟨at_za (fun k hk => by match k, hk with | 0, _ => rfl | 1, _ => rfl) z1, hP⟩⟩
        have hD : va_D A (fl [[ob h 3 [.ref ss, .ref sf]], [za ty sf 2 (fun _ => 0)]]) := (D_same2 hD [h, sf] rfl rfl)
        exact end_v (bs' := (fun (_ : Unit) => [[ob h 3 [.ref ss, .ref sf]], [za ty sf 2 (fun _ => 0)]])) () hx hb hr hlocks hP hD hS trivial (Nat.le_of_ble_eq_true rfl) (Nat.le_of_ble_eq_true rfl) dX4_empty_24
      · exact absurd (by decide) c_3
set_option maxHeartbeats 4000000 in
set_option maxRecDepth 100000 in
theorem c_X8_init (l : Launch) (D : va_G) (ty : Nat → ClassId) (h : Nat) : CTv l yX8_init wsX8_init ({ frames := 1, cells := 2, slots := 68, locals := 20 }) D ty [.ref h] [[ob h 7 [.null, .int 0, .int 0, .int 0, .int 0, .int 0, .null]]] (fun (u : Nat × Nat) => match u with | (cod, told) => True) (fun (u : Nat × Nat) => match u with | (cod, told) => [[ob h 7 [.ref cod, .int 0, .int 0, .int 0, .int 0, .int 0, .ref told]], [ia ty cod 60 (fun _ => 0)], [za ty told 8 (fun _ => 0)]]) := by
  refine CTv_of cX8_init 1 none (by decide) rfl (Nat.le_of_ble_eq_true rfl) ?_
  intro p e s m args below meth c A hx hb hr hml hown hlocks hin hts hA hX hK hP hD ls hl
  have hown : s.vm.findClass RX8 = some m.cls := hown
  have hS : va_S A s.heap s.heap [] := va_S.rf
  have i_X8 : ∀ z ∈ wsX80, z ∈ wsX8_init := fun z h => List.mem_cons_of_mem _ (List.mem_append_right _ h)
  have hl : lv_has ls 1 [(0, .ref h)] := hl
  refine lv_aload_n hx hb dX8_init_0 rfl (lv_at hl 0 rfl) ?_
  refine W.objInit hx hb hown (hts (Cond.methodLink RX8 3 objectInit) (List.mem_of_getElem? (i := 1) rfl)) (hts (Cond.instanceMethod objectInit) (List.mem_of_getElem? (i := 2) rfl)) (hts _ (List.mem_of_getElem? (i := 3) rfl)) rfl (by rw [hml]; exact hl.1) rfl dX8_init_1 (Nat.le_of_ble_eq_true rfl) (Nat.le_of_ble_eq_true rfl) ?_
  refine W.eq (g2 := F0 m 4 ls []) rfl ?_
  refine lv_aload_n hx hb dX8_init_4 rfl (lv_at hl 0 rfl) ?_
  refine lv_bipush (v := 60) hx hb dX8_init_5 (by decide) ?_
  refine k_newi (n := 60) hx hb (hts (Cond.arrayClass .int) (List.mem_of_getElem? (i := 4) rfl)) hK hP hD hS hA rfl (by decide) (Nat.le_of_ble_eq_true rfl) (Nat.le_of_ble_eq_true rfl) dX8_init_7 (fun q_1 H hP hD hS => ?_)
  rw [fl_push] at hP hD
  have hP : va_P D vwCl (fl [[ob h 7 [.null, .int 0, .int 0, .int 0, .int 0, .int 0, .null]], [ia ty q_1 60 (fun _ => 0)]]) H := hP
  have hD : va_D A (fl [[ob h 7 [.null, .int 0, .int 0, .int 0, .int 0, .int 0, .null]], [ia ty q_1 60 (fun _ => 0)]]) := hD
  refine va_putF (D := D) (ci := 7) (v := .ref q_1) (ty := .array (.int)) (C := RX8) (T := TX8) (N := 7) hx hb hts i_X8 tyX8 tyX8_ok nmX8 hown hK hP hD hS 0 rfl rfl 0 (by decide) (hts (Cond.fieldLink RX8 9 "BrownClock$Text" "codes" "[I") (List.mem_of_getElem? (i := 5) rfl)) (fun _ h9 => h9) rfl hin rfl (by decide +kernel) rfl rfl (Nat.le_of_ble_eq_true rfl) dX8_init_9 (fun H locs hP hD hS => ?_)
  have hP : va_P D vwCl (fl [[ob h 7 [.ref q_1, .int 0, .int 0, .int 0, .int 0, .int 0, .null]], [ia ty q_1 60 (fun _ => 0)]]) H := hP
  have hD : va_D A (fl [[ob h 7 [.ref q_1, .int 0, .int 0, .int 0, .int 0, .int 0, .null]], [ia ty q_1 60 (fun _ => 0)]]) := hD
  refine lv_aload_n hx hb dX8_init_12 rfl (lv_at hl 0 rfl) ?_
  refine lv_bipush (v := 8) hx hb dX8_init_13 (by decide) ?_
  refine k_newz (n := 8) hx hb (hts (Cond.arrayClass .boolean) (List.mem_of_getElem? (i := 6) rfl)) hK hP hD hS hA rfl (by decide) (Nat.le_of_ble_eq_true rfl) (Nat.le_of_ble_eq_true rfl) dX8_init_15 (fun q_2 H hP hD hS => ?_)
  rw [fl_push] at hP hD
  have hP : va_P D vwCl (fl [[ob h 7 [.ref q_1, .int 0, .int 0, .int 0, .int 0, .int 0, .null]], [ia ty q_1 60 (fun _ => 0)], [za ty q_2 8 (fun _ => 0)]]) H := hP
  have hD : va_D A (fl [[ob h 7 [.ref q_1, .int 0, .int 0, .int 0, .int 0, .int 0, .null]], [ia ty q_1 60 (fun _ => 0)], [za ty q_2 8 (fun _ => 0)]]) := hD
  refine va_putF (D := D) (ci := 7) (v := .ref q_2) (ty := .array (.boolean)) (C := RX8) (T := TX8) (N := 7) hx hb hts i_X8 tyX8 tyX8_ok nmX8 hown hK hP hD hS 0 rfl rfl 6 (by decide) (hts (Cond.fieldLink RX8 15 "BrownClock$Text" "isRegisterTold" "[Z") (List.mem_of_getElem? (i := 7) rfl)) (fun _ h9 => h9) rfl hin rfl (by decide +kernel) rfl rfl (Nat.le_of_ble_eq_true rfl) dX8_init_17 (fun H locs hP hD hS => ?_)
  have hP : va_P D vwCl (fl [[ob h 7 [.ref q_1, .int 0, .int 0, .int 0, .int 0, .int 0, .ref q_2]], [ia ty q_1 60 (fun _ => 0)], [za ty q_2 8 (fun _ => 0)]]) H := hP
  have hD : va_D A (fl [[ob h 7 [.ref q_1, .int 0, .int 0, .int 0, .int 0, .int 0, .ref q_2]], [ia ty q_1 60 (fun _ => 0)], [za ty q_2 8 (fun _ => 0)]]) := hD
  have hP : va_P D vwCl (fl [[ob h 7 [.ref q_1, .int 0, .int 0, .int 0, .int 0, .int 0, .ref q_2]], [ia ty q_1 60 (fun _ => 0)], [za ty q_2 8 (fun _ => 0)]]) H := hP
  have hD : va_D A (fl [[ob h 7 [.ref q_1, .int 0, .int 0, .int 0, .int 0, .int 0, .ref q_2]], [ia ty q_1 60 (fun _ => 0)], [za ty q_2 8 (fun _ => 0)]]) := hD
  exact end_v (bs' := (fun (u : Nat × Nat) => match u with | (cod, told) => [[ob h 7 [.ref cod, .int 0, .int 0, .int 0, .int 0, .int 0, .ref told]], [ia ty cod 60 (fun _ => 0)], [za ty told 8 (fun _ => 0)]])) (q_1, q_2) hx hb hr hlocks hP hD hS trivial (Nat.le_of_ble_eq_true rfl) (Nat.le_of_ble_eq_true rfl) dX8_init_20
