set_option maxHeartbeats 4000000 in
set_option maxRecDepth 100000 in
theorem c_X2_forgetOldest (l : Launch) (D : va_G) (ty : Nat → ClassId) (h hs : Nat) (cv : Int32) (ad : Nat → Nat → Nat) (ur : Nat → Nat → Int32) (ux uy : Nat → Int64) (ug : Nat → Nat → Nat → Int32) : CTv l yX2_forgetOldest wsX2_forgetOldest ({ frames := 0, cells := 0, slots := 0, locals := 0 }) D ty [.ref h] [[ob h 2 [.ref hs, .int cv]], [sa ty hs 14 (fun k => some (ad k 0))], (hsW ty ad ur ux uy ug)] (fun (_ : Unit) => True) (fun (_ : Unit) => [[ob h 2 [.ref hs, .int 13]], [sa ty hs 14 (fun k => some ((rot ad) k 0))], (hsW ty (rot ad) (rot ur) (rot ux) (rot uy) (rot ug))]) := by
  refine CTv_of cX2_forgetOldest 3 none (by decide) rfl (Nat.le_of_ble_eq_true rfl) ?_
  intro p e s m args below meth c A hx hb hr hml hown hlocks hin hts hA hX hK hP hD ls hl
  have hown : s.vm.findClass RX2 = some m.cls := hown
  have hS : va_S A s.heap s.heap [] := va_S.rf
  have i_X2 : ∀ z ∈ wsX20, z ∈ wsX2_forgetOldest := fun z h => List.mem_cons_of_mem _ (List.mem_append_right _ h)
  have hl : lv_has ls 3 [(0, .ref h)] := hl
  refine lv_aload_n hx hb dX2_forgetOldest_0 rfl (lv_at hl 0 rfl) ?_
  refine va_get (D := D) (ci := 2) (v := .ref hs) (C := RX2) (T := TX2) (N := 2) hx hb hts i_X2 hown hK hP 0 rfl rfl 0 (by decide) (hts (Cond.fieldLink RX2 11 "BrownClock$History" "states" "[LBrownClock$State;") (List.mem_of_getElem? (i := 1) rfl)) (fun _ h9 => h9) rfl dX2_forgetOldest_1 ?_
  refine lv_iconst (v := 0) hx hb dX2_forgetOldest_4 (by decide) ?_
  refine k_saald hx hb hK hP 1 rfl 0 rfl (by decide) (Nat.le_of_ble_eq_true rfl) (v := (ad 0 0)) rfl dX2_forgetOldest_5 ?_
  refine lv_astore_n (lv' := [(1, .ref (ad 0 0)), (0, .ref h)]) hx hb dX2_forgetOldest_6 rfl hl (by decide) rfl (fun ls hl => ?_)
  refine lv_iconst (v := 1) hx hb dX2_forgetOldest_7 (by decide) ?_
  refine lv_istore_n (lv' := [(2, .int 1), (1, .ref (ad 0 0)), (0, .ref h)]) hx hb dX2_forgetOldest_8 rfl hl (by decide) rfl (fun ls hl => ?_)
  refine lv_iload_n hx hb dX2_forgetOldest_9 rfl (lv_at hl 0 rfl) ?_
  refine lv_aload_n hx hb dX2_forgetOldest_10 rfl (lv_at hl 2 rfl) ?_
  refine va_get (D := D) (ci := 2) (v := .ref hs) (C := RX2) (T := TX2) (N := 2) hx hb hts i_X2 hown hK hP 0 rfl rfl 0 (by decide) (hts (Cond.fieldLink RX2 11 "BrownClock$History" "states" "[LBrownClock$State;") (List.mem_of_getElem? (i := 1) rfl)) (fun _ h9 => h9) rfl dX2_forgetOldest_11 ?_
  refine va_alen hx hb hK hP 1 3 rfl rfl (v := 14) rfl dX2_forgetOldest_14 ?_
  refine lv_icmp_ge (tgt := 38) hx hb dX2_forgetOldest_15 (by decide) (fun c_1 => ?_) (fun c_1 => ?_)
  · exact absurd c_1 (by decide)
  · skip
    refine lv_aload_n hx hb dX2_forgetOldest_18 rfl (lv_at hl 2 rfl) ?_
    refine va_get (D := D) (ci := 2) (v := .ref hs) (C := RX2) (T := TX2) (N := 2) hx hb hts i_X2 hown hK hP 0 rfl rfl 0 (by decide) (hts (Cond.fieldLink RX2 11 "BrownClock$History" "states" "[LBrownClock$State;") (List.mem_of_getElem? (i := 1) rfl)) (fun _ h9 => h9) rfl dX2_forgetOldest_19 ?_
    refine lv_iload_n hx hb dX2_forgetOldest_22 rfl (lv_at hl 0 rfl) ?_
    refine lv_iconst (v := 1) hx hb dX2_forgetOldest_23 (by decide) ?_
    refine k_isub (v := 0) hx hb dX2_forgetOldest_24 (by decide) ?_
    refine lv_aload_n hx hb dX2_forgetOldest_25 rfl (lv_at hl 2 rfl) ?_
    refine va_get (D := D) (ci := 2) (v := .ref hs) (C := RX2) (T := TX2) (N := 2) hx hb hts i_X2 hown hK hP 0 rfl rfl 0 (by decide) (hts (Cond.fieldLink RX2 11 "BrownClock$History" "states" "[LBrownClock$State;") (List.mem_of_getElem? (i := 1) rfl)) (fun _ h9 => h9) rfl dX2_forgetOldest_26 ?_
    refine lv_iload_n hx hb dX2_forgetOldest_29 rfl (lv_at hl 0 rfl) ?_
    refine k_saald hx hb hK hP 1 rfl 1 rfl (by decide) (Nat.le_of_ble_eq_true rfl) (v := (ad 1 0)) rfl dX2_forgetOldest_30 ?_
    obtain ⟨qk, vs, hqk⟩ := hs_cell (ty := ty) (ad := ad) (hr := ur) (hx := ux) (hy := uy) (hg := ug) [[ob h 2 [.ref hs, .int cv]], [sa ty hs 14 (fun k => some (ad k 0))]] 1 (by decide)
    refine k_sast hx hb hK hP hD hS 1 qk rfl hqk 0 rfl (by decide) (Nat.le_of_ble_eq_true rfl) dX2_forgetOldest_31 (fun H locs hP hD hS => ?_)
    have hP : va_P D vwCl (fl [[ob h 2 [.ref hs, .int cv]], [sa ty hs 14 (va_up (fun k => some (ad k 0)) 0 (some (ad 1 0)))], (hsW ty ad ur ux uy ug)]) H := hP
    have hD : va_D A (fl [[ob h 2 [.ref hs, .int cv]], [sa ty hs 14 (va_up (fun k => some (ad k 0)) 0 (some (ad 1 0)))], (hsW ty ad ur ux uy ug)]) := hD
    refine lv_iinc (v := 2) (lv' := [(2, .int 2), (1, .ref (ad 0 0)), (0, .ref h)]) hx hb dX2_forgetOldest_32 hl (k := 0) rfl (by decide) (by decide) rfl (fun ls hl => ?_)
    refine lv_goto (tgt := 9) hx hb dX2_forgetOldest_35 (by decide) ?_
    refine lv_iload_n hx hb dX2_forgetOldest_9 rfl (lv_at hl 0 rfl) ?_
    refine lv_aload_n hx hb dX2_forgetOldest_10 rfl (lv_at hl 2 rfl) ?_
    refine va_get (D := D) (ci := 2) (v := .ref hs) (C := RX2) (T := TX2) (N := 2) hx hb hts i_X2 hown hK hP 0 rfl rfl 0 (by decide) (hts (Cond.fieldLink RX2 11 "BrownClock$History" "states" "[LBrownClock$State;") (List.mem_of_getElem? (i := 1) rfl)) (fun _ h9 => h9) rfl dX2_forgetOldest_11 ?_
    refine va_alen hx hb hK hP 1 3 rfl rfl (v := 14) rfl dX2_forgetOldest_14 ?_
    refine lv_icmp_ge (tgt := 38) hx hb dX2_forgetOldest_15 (by decide) (fun c_2 => ?_) (fun c_2 => ?_)
    · exact absurd c_2 (by decide)
    · skip
      refine lv_aload_n hx hb dX2_forgetOldest_18 rfl (lv_at hl 2 rfl) ?_
      refine va_get (D := D) (ci := 2) (v := .ref hs) (C := RX2) (T := TX2) (N := 2) hx hb hts i_X2 hown hK hP 0 rfl rfl 0 (by decide) (hts (Cond.fieldLink RX2 11 "BrownClock$History" "states" "[LBrownClock$State;") (List.mem_of_getElem? (i := 1) rfl)) (fun _ h9 => h9) rfl dX2_forgetOldest_19 ?_
      refine lv_iload_n hx hb dX2_forgetOldest_22 rfl (lv_at hl 0 rfl) ?_
      refine lv_iconst (v := 1) hx hb dX2_forgetOldest_23 (by decide) ?_
      refine k_isub (v := 1) hx hb dX2_forgetOldest_24 (by decide) ?_
      refine lv_aload_n hx hb dX2_forgetOldest_25 rfl (lv_at hl 2 rfl) ?_
      refine va_get (D := D) (ci := 2) (v := .ref hs) (C := RX2) (T := TX2) (N := 2) hx hb hts i_X2 hown hK hP 0 rfl rfl 0 (by decide) (hts (Cond.fieldLink RX2 11 "BrownClock$History" "states" "[LBrownClock$State;") (List.mem_of_getElem? (i := 1) rfl)) (fun _ h9 => h9) rfl dX2_forgetOldest_26 ?_
      refine lv_iload_n hx hb dX2_forgetOldest_29 rfl (lv_at hl 0 rfl) ?_
      refine k_saald hx hb hK hP 1 rfl 2 rfl (by decide) (Nat.le_of_ble_eq_true rfl) (v := (ad 2 0)) rfl dX2_forgetOldest_30 ?_
      obtain ⟨qk, vs, hqk⟩ := hs_cell (ty := ty) (ad := ad) (hr := ur) (hx := ux) (hy := uy) (hg := ug) [[ob h 2 [.ref hs, .int cv]], [sa ty hs 14 (va_up (fun k => some (ad k 0)) 0 (some (ad 1 0)))]] 2 (by decide)
      refine k_sast hx hb hK hP hD hS 1 qk rfl hqk 1 rfl (by decide) (Nat.le_of_ble_eq_true rfl) dX2_forgetOldest_31 (fun H locs hP hD hS => ?_)
      have hP : va_P D vwCl (fl [[ob h 2 [.ref hs, .int cv]], [sa ty hs 14 (va_up (va_up (fun k => some (ad k 0)) 0 (some (ad 1 0))) 1 (some (ad 2 0)))], (hsW ty ad ur ux uy ug)]) H := hP
      have hD : va_D A (fl [[ob h 2 [.ref hs, .int cv]], [sa ty hs 14 (va_up (va_up (fun k => some (ad k 0)) 0 (some (ad 1 0))) 1 (some (ad 2 0)))], (hsW ty ad ur ux uy ug)]) := hD
      refine lv_iinc (v := 3) (lv' := [(2, .int 3), (1, .ref (ad 0 0)), (0, .ref h)]) hx hb dX2_forgetOldest_32 hl (k := 0) rfl (by decide) (by decide) rfl (fun ls hl => ?_)
      refine lv_goto (tgt := 9) hx hb dX2_forgetOldest_35 (by decide) ?_
      refine lv_iload_n hx hb dX2_forgetOldest_9 rfl (lv_at hl 0 rfl) ?_
      refine lv_aload_n hx hb dX2_forgetOldest_10 rfl (lv_at hl 2 rfl) ?_
      refine va_get (D := D) (ci := 2) (v := .ref hs) (C := RX2) (T := TX2) (N := 2) hx hb hts i_X2 hown hK hP 0 rfl rfl 0 (by decide) (hts (Cond.fieldLink RX2 11 "BrownClock$History" "states" "[LBrownClock$State;") (List.mem_of_getElem? (i := 1) rfl)) (fun _ h9 => h9) rfl dX2_forgetOldest_11 ?_
      refine va_alen hx hb hK hP 1 3 rfl rfl (v := 14) rfl dX2_forgetOldest_14 ?_
      refine lv_icmp_ge (tgt := 38) hx hb dX2_forgetOldest_15 (by decide) (fun c_3 => ?_) (fun c_3 => ?_)
      · exact absurd c_3 (by decide)
      · skip
        refine lv_aload_n hx hb dX2_forgetOldest_18 rfl (lv_at hl 2 rfl) ?_
        refine va_get (D := D) (ci := 2) (v := .ref hs) (C := RX2) (T := TX2) (N := 2) hx hb hts i_X2 hown hK hP 0 rfl rfl 0 (by decide) (hts (Cond.fieldLink RX2 11 "BrownClock$History" "states" "[LBrownClock$State;") (List.mem_of_getElem? (i := 1) rfl)) (fun _ h9 => h9) rfl dX2_forgetOldest_19 ?_
        refine lv_iload_n hx hb dX2_forgetOldest_22 rfl (lv_at hl 0 rfl) ?_
        refine lv_iconst (v := 1) hx hb dX2_forgetOldest_23 (by decide) ?_
        refine k_isub (v := 2) hx hb dX2_forgetOldest_24 (by decide) ?_
        refine lv_aload_n hx hb dX2_forgetOldest_25 rfl (lv_at hl 2 rfl) ?_
        refine va_get (D := D) (ci := 2) (v := .ref hs) (C := RX2) (T := TX2) (N := 2) hx hb hts i_X2 hown hK hP 0 rfl rfl 0 (by decide) (hts (Cond.fieldLink RX2 11 "BrownClock$History" "states" "[LBrownClock$State;") (List.mem_of_getElem? (i := 1) rfl)) (fun _ h9 => h9) rfl dX2_forgetOldest_26 ?_
        refine lv_iload_n hx hb dX2_forgetOldest_29 rfl (lv_at hl 0 rfl) ?_
        refine k_saald hx hb hK hP 1 rfl 3 rfl (by decide) (Nat.le_of_ble_eq_true rfl) (v := (ad 3 0)) rfl dX2_forgetOldest_30 ?_
        obtain ⟨qk, vs, hqk⟩ := hs_cell (ty := ty) (ad := ad) (hr := ur) (hx := ux) (hy := uy) (hg := ug) [[ob h 2 [.ref hs, .int cv]], [sa ty hs 14 (va_up (va_up (fun k => some (ad k 0)) 0 (some (ad 1 0))) 1 (some (ad 2 0)))]] 3 (by decide)
        refine k_sast hx hb hK hP hD hS 1 qk rfl hqk 2 rfl (by decide) (Nat.le_of_ble_eq_true rfl) dX2_forgetOldest_31 (fun H locs hP hD hS => ?_)
        have hP : va_P D vwCl (fl [[ob h 2 [.ref hs, .int cv]], [sa ty hs 14 (va_up (va_up (va_up (fun k => some (ad k 0)) 0 (some (ad 1 0))) 1 (some (ad 2 0))) 2 (some (ad 3 0)))], (hsW ty ad ur ux uy ug)]) H := hP
        have hD : va_D A (fl [[ob h 2 [.ref hs, .int cv]], [sa ty hs 14 (va_up (va_up (va_up (fun k => some (ad k 0)) 0 (some (ad 1 0))) 1 (some (ad 2 0))) 2 (some (ad 3 0)))], (hsW ty ad ur ux uy ug)]) := hD
        refine lv_iinc (v := 4) (lv' := [(2, .int 4), (1, .ref (ad 0 0)), (0, .ref h)]) hx hb dX2_forgetOldest_32 hl (k := 0) rfl (by decide) (by decide) rfl (fun ls hl => ?_)
        refine lv_goto (tgt := 9) hx hb dX2_forgetOldest_35 (by decide) ?_
        refine lv_iload_n hx hb dX2_forgetOldest_9 rfl (lv_at hl 0 rfl) ?_
        refine lv_aload_n hx hb dX2_forgetOldest_10 rfl (lv_at hl 2 rfl) ?_
        refine va_get (D := D) (ci := 2) (v := .ref hs) (C := RX2) (T := TX2) (N := 2) hx hb hts i_X2 hown hK hP 0 rfl rfl 0 (by decide) (hts (Cond.fieldLink RX2 11 "BrownClock$History" "states" "[LBrownClock$State;") (List.mem_of_getElem? (i := 1) rfl)) (fun _ h9 => h9) rfl dX2_forgetOldest_11 ?_
        refine va_alen hx hb hK hP 1 3 rfl rfl (v := 14) rfl dX2_forgetOldest_14 ?_
        refine lv_icmp_ge (tgt := 38) hx hb dX2_forgetOldest_15 (by decide) (fun c_4 => ?_) (fun c_4 => ?_)
        · exact absurd c_4 (by decide)
        · skip
          refine lv_aload_n hx hb dX2_forgetOldest_18 rfl (lv_at hl 2 rfl) ?_
          refine va_get (D := D) (ci := 2) (v := .ref hs) (C := RX2) (T := TX2) (N := 2) hx hb hts i_X2 hown hK hP 0 rfl rfl 0 (by decide) (hts (Cond.fieldLink RX2 11 "BrownClock$History" "states" "[LBrownClock$State;") (List.mem_of_getElem? (i := 1) rfl)) (fun _ h9 => h9) rfl dX2_forgetOldest_19 ?_
          refine lv_iload_n hx hb dX2_forgetOldest_22 rfl (lv_at hl 0 rfl) ?_
          refine lv_iconst (v := 1) hx hb dX2_forgetOldest_23 (by decide) ?_
          refine k_isub (v := 3) hx hb dX2_forgetOldest_24 (by decide) ?_
          refine lv_aload_n hx hb dX2_forgetOldest_25 rfl (lv_at hl 2 rfl) ?_
          refine va_get (D := D) (ci := 2) (v := .ref hs) (C := RX2) (T := TX2) (N := 2) hx hb hts i_X2 hown hK hP 0 rfl rfl 0 (by decide) (hts (Cond.fieldLink RX2 11 "BrownClock$History" "states" "[LBrownClock$State;") (List.mem_of_getElem? (i := 1) rfl)) (fun _ h9 => h9) rfl dX2_forgetOldest_26 ?_
          refine lv_iload_n hx hb dX2_forgetOldest_29 rfl (lv_at hl 0 rfl) ?_
          refine k_saald hx hb hK hP 1 rfl 4 rfl (by decide) (Nat.le_of_ble_eq_true rfl) (v := (ad 4 0)) rfl dX2_forgetOldest_30 ?_
          obtain ⟨qk, vs, hqk⟩ := hs_cell (ty := ty) (ad := ad) (hr := ur) (hx := ux) (hy := uy) (hg := ug) [[ob h 2 [.ref hs, .int cv]], [sa ty hs 14 (va_up (va_up (va_up (fun k => some (ad k 0)) 0 (some (ad 1 0))) 1 (some (ad 2 0))) 2 (some (ad 3 0)))]] 4 (by decide)
          refine k_sast hx hb hK hP hD hS 1 qk rfl hqk 3 rfl (by decide) (Nat.le_of_ble_eq_true rfl) dX2_forgetOldest_31 (fun H locs hP hD hS => ?_)
          have hP : va_P D vwCl (fl [[ob h 2 [.ref hs, .int cv]], [sa ty hs 14 (va_up (va_up (va_up (va_up (fun k => some (ad k 0)) 0 (some (ad 1 0))) 1 (some (ad 2 0))) 2 (some (ad 3 0))) 3 (some (ad 4 0)))], (hsW ty ad ur ux uy ug)]) H := hP
          have hD : va_D A (fl [[ob h 2 [.ref hs, .int cv]], [sa ty hs 14 (va_up (va_up (va_up (va_up (fun k => some (ad k 0)) 0 (some (ad 1 0))) 1 (some (ad 2 0))) 2 (some (ad 3 0))) 3 (some (ad 4 0)))], (hsW ty ad ur ux uy ug)]) := hD
          refine lv_iinc (v := 5) (lv' := [(2, .int 5), (1, .ref (ad 0 0)), (0, .ref h)]) hx hb dX2_forgetOldest_32 hl (k := 0) rfl (by decide) (by decide) rfl (fun ls hl => ?_)
          refine lv_goto (tgt := 9) hx hb dX2_forgetOldest_35 (by decide) ?_
          refine lv_iload_n hx hb dX2_forgetOldest_9 rfl (lv_at hl 0 rfl) ?_
          refine lv_aload_n hx hb dX2_forgetOldest_10 rfl (lv_at hl 2 rfl) ?_
          refine va_get (D := D) (ci := 2) (v := .ref hs) (C := RX2) (T := TX2) (N := 2) hx hb hts i_X2 hown hK hP 0 rfl rfl 0 (by decide) (hts (Cond.fieldLink RX2 11 "BrownClock$History" "states" "[LBrownClock$State;") (List.mem_of_getElem? (i := 1) rfl)) (fun _ h9 => h9) rfl dX2_forgetOldest_11 ?_
          refine va_alen hx hb hK hP 1 3 rfl rfl (v := 14) rfl dX2_forgetOldest_14 ?_
          refine lv_icmp_ge (tgt := 38) hx hb dX2_forgetOldest_15 (by decide) (fun c_5 => ?_) (fun c_5 => ?_)
          · exact absurd c_5 (by decide)
          · skip
            refine lv_aload_n hx hb dX2_forgetOldest_18 rfl (lv_at hl 2 rfl) ?_
            refine va_get (D := D) (ci := 2) (v := .ref hs) (C := RX2) (T := TX2) (N := 2) hx hb hts i_X2 hown hK hP 0 rfl rfl 0 (by decide) (hts (Cond.fieldLink RX2 11 "BrownClock$History" "states" "[LBrownClock$State;") (List.mem_of_getElem? (i := 1) rfl)) (fun _ h9 => h9) rfl dX2_forgetOldest_19 ?_
            refine lv_iload_n hx hb dX2_forgetOldest_22 rfl (lv_at hl 0 rfl) ?_
            refine lv_iconst (v := 1) hx hb dX2_forgetOldest_23 (by decide) ?_
            refine k_isub (v := 4) hx hb dX2_forgetOldest_24 (by decide) ?_
            refine lv_aload_n hx hb dX2_forgetOldest_25 rfl (lv_at hl 2 rfl) ?_
            refine va_get (D := D) (ci := 2) (v := .ref hs) (C := RX2) (T := TX2) (N := 2) hx hb hts i_X2 hown hK hP 0 rfl rfl 0 (by decide) (hts (Cond.fieldLink RX2 11 "BrownClock$History" "states" "[LBrownClock$State;") (List.mem_of_getElem? (i := 1) rfl)) (fun _ h9 => h9) rfl dX2_forgetOldest_26 ?_
            refine lv_iload_n hx hb dX2_forgetOldest_29 rfl (lv_at hl 0 rfl) ?_
            refine k_saald hx hb hK hP 1 rfl 5 rfl (by decide) (Nat.le_of_ble_eq_true rfl) (v := (ad 5 0)) rfl dX2_forgetOldest_30 ?_
            obtain ⟨qk, vs, hqk⟩ := hs_cell (ty := ty) (ad := ad) (hr := ur) (hx := ux) (hy := uy) (hg := ug) [[ob h 2 [.ref hs, .int cv]], [sa ty hs 14 (va_up (va_up (va_up (va_up (fun k => some (ad k 0)) 0 (some (ad 1 0))) 1 (some (ad 2 0))) 2 (some (ad 3 0))) 3 (some (ad 4 0)))]] 5 (by decide)
            refine k_sast hx hb hK hP hD hS 1 qk rfl hqk 4 rfl (by decide) (Nat.le_of_ble_eq_true rfl) dX2_forgetOldest_31 (fun H locs hP hD hS => ?_)
            have hP : va_P D vwCl (fl [[ob h 2 [.ref hs, .int cv]], [sa ty hs 14 (va_up (va_up (va_up (va_up (va_up (fun k => some (ad k 0)) 0 (some (ad 1 0))) 1 (some (ad 2 0))) 2 (some (ad 3 0))) 3 (some (ad 4 0))) 4 (some (ad 5 0)))], (hsW ty ad ur ux uy ug)]) H := hP
            have hD : va_D A (fl [[ob h 2 [.ref hs, .int cv]], [sa ty hs 14 (va_up (va_up (va_up (va_up (va_up (fun k => some (ad k 0)) 0 (some (ad 1 0))) 1 (some (ad 2 0))) 2 (some (ad 3 0))) 3 (some (ad 4 0))) 4 (some (ad 5 0)))], (hsW ty ad ur ux uy ug)]) := hD
            refine lv_iinc (v := 6) (lv' := [(2, .int 6), (1, .ref (ad 0 0)), (0, .ref h)]) hx hb dX2_forgetOldest_32 hl (k := 0) rfl (by decide) (by decide) rfl (fun ls hl => ?_)
            refine lv_goto (tgt := 9) hx hb dX2_forgetOldest_35 (by decide) ?_
            refine lv_iload_n hx hb dX2_forgetOldest_9 rfl (lv_at hl 0 rfl) ?_
            refine lv_aload_n hx hb dX2_forgetOldest_10 rfl (lv_at hl 2 rfl) ?_
            refine va_get (D := D) (ci := 2) (v := .ref hs) (C := RX2) (T := TX2) (N := 2) hx hb hts i_X2 hown hK hP 0 rfl rfl 0 (by decide) (hts (Cond.fieldLink RX2 11 "BrownClock$History" "states" "[LBrownClock$State;") (List.mem_of_getElem? (i := 1) rfl)) (fun _ h9 => h9) rfl dX2_forgetOldest_11 ?_
            refine va_alen hx hb hK hP 1 3 rfl rfl (v := 14) rfl dX2_forgetOldest_14 ?_
            refine lv_icmp_ge (tgt := 38) hx hb dX2_forgetOldest_15 (by decide) (fun c_6 => ?_) (fun c_6 => ?_)
            · exact absurd c_6 (by decide)
            · skip
              refine lv_aload_n hx hb dX2_forgetOldest_18 rfl (lv_at hl 2 rfl) ?_
              refine va_get (D := D) (ci := 2) (v := .ref hs) (C := RX2) (T := TX2) (N := 2) hx hb hts i_X2 hown hK hP 0 rfl rfl 0 (by decide) (hts (Cond.fieldLink RX2 11 "BrownClock$History" "states" "[LBrownClock$State;") (List.mem_of_getElem? (i := 1) rfl)) (fun _ h9 => h9) rfl dX2_forgetOldest_19 ?_
              refine lv_iload_n hx hb dX2_forgetOldest_22 rfl (lv_at hl 0 rfl) ?_
              refine lv_iconst (v := 1) hx hb dX2_forgetOldest_23 (by decide) ?_
              refine k_isub (v := 5) hx hb dX2_forgetOldest_24 (by decide) ?_
              refine lv_aload_n hx hb dX2_forgetOldest_25 rfl (lv_at hl 2 rfl) ?_
              refine va_get (D := D) (ci := 2) (v := .ref hs) (C := RX2) (T := TX2) (N := 2) hx hb hts i_X2 hown hK hP 0 rfl rfl 0 (by decide) (hts (Cond.fieldLink RX2 11 "BrownClock$History" "states" "[LBrownClock$State;") (List.mem_of_getElem? (i := 1) rfl)) (fun _ h9 => h9) rfl dX2_forgetOldest_26 ?_
              refine lv_iload_n hx hb dX2_forgetOldest_29 rfl (lv_at hl 0 rfl) ?_
              refine k_saald hx hb hK hP 1 rfl 6 rfl (by decide) (Nat.le_of_ble_eq_true rfl) (v := (ad 6 0)) rfl dX2_forgetOldest_30 ?_
              obtain ⟨qk, vs, hqk⟩ := hs_cell (ty := ty) (ad := ad) (hr := ur) (hx := ux) (hy := uy) (hg := ug) [[ob h 2 [.ref hs, .int cv]], [sa ty hs 14 (va_up (va_up (va_up (va_up (va_up (fun k => some (ad k 0)) 0 (some (ad 1 0))) 1 (some (ad 2 0))) 2 (some (ad 3 0))) 3 (some (ad 4 0))) 4 (some (ad 5 0)))]] 6 (by decide)
              refine k_sast hx hb hK hP hD hS 1 qk rfl hqk 5 rfl (by decide) (Nat.le_of_ble_eq_true rfl) dX2_forgetOldest_31 (fun H locs hP hD hS => ?_)
              have hP : va_P D vwCl (fl [[ob h 2 [.ref hs, .int cv]], [sa ty hs 14 (va_up (va_up (va_up (va_up (va_up (va_up (fun k => some (ad k 0)) 0 (some (ad 1 0))) 1 (some (ad 2 0))) 2 (some (ad 3 0))) 3 (some (ad 4 0))) 4 (some (ad 5 0))) 5 (some (ad 6 0)))], (hsW ty ad ur ux uy ug)]) H := hP
              have hD : va_D A (fl [[ob h 2 [.ref hs, .int cv]], [sa ty hs 14 (va_up (va_up (va_up (va_up (va_up (va_up (fun k => some (ad k 0)) 0 (some (ad 1 0))) 1 (some (ad 2 0))) 2 (some (ad 3 0))) 3 (some (ad 4 0))) 4 (some (ad 5 0))) 5 (some (ad 6 0)))], (hsW ty ad ur ux uy ug)]) := hD
              refine lv_iinc (v := 7) (lv' := [(2, .int 7), (1, .ref (ad 0 0)), (0, .ref h)]) hx hb dX2_forgetOldest_32 hl (k := 0) rfl (by decide) (by decide) rfl (fun ls hl => ?_)
              refine lv_goto (tgt := 9) hx hb dX2_forgetOldest_35 (by decide) ?_
              refine lv_iload_n hx hb dX2_forgetOldest_9 rfl (lv_at hl 0 rfl) ?_
              refine lv_aload_n hx hb dX2_forgetOldest_10 rfl (lv_at hl 2 rfl) ?_
              refine va_get (D := D) (ci := 2) (v := .ref hs) (C := RX2) (T := TX2) (N := 2) hx hb hts i_X2 hown hK hP 0 rfl rfl 0 (by decide) (hts (Cond.fieldLink RX2 11 "BrownClock$History" "states" "[LBrownClock$State;") (List.mem_of_getElem? (i := 1) rfl)) (fun _ h9 => h9) rfl dX2_forgetOldest_11 ?_
              refine va_alen hx hb hK hP 1 3 rfl rfl (v := 14) rfl dX2_forgetOldest_14 ?_
              refine lv_icmp_ge (tgt := 38) hx hb dX2_forgetOldest_15 (by decide) (fun c_7 => ?_) (fun c_7 => ?_)
              · exact absurd c_7 (by decide)
              · skip
                refine lv_aload_n hx hb dX2_forgetOldest_18 rfl (lv_at hl 2 rfl) ?_
                refine va_get (D := D) (ci := 2) (v := .ref hs) (C := RX2) (T := TX2) (N := 2) hx hb hts i_X2 hown hK hP 0 rfl rfl 0 (by decide) (hts (Cond.fieldLink RX2 11 "BrownClock$History" "states" "[LBrownClock$State;") (List.mem_of_getElem? (i := 1) rfl)) (fun _ h9 => h9) rfl dX2_forgetOldest_19 ?_
                refine lv_iload_n hx hb dX2_forgetOldest_22 rfl (lv_at hl 0 rfl) ?_
                refine lv_iconst (v := 1) hx hb dX2_forgetOldest_23 (by decide) ?_
                refine k_isub (v := 6) hx hb dX2_forgetOldest_24 (by decide) ?_
                refine lv_aload_n hx hb dX2_forgetOldest_25 rfl (lv_at hl 2 rfl) ?_
                refine va_get (D := D) (ci := 2) (v := .ref hs) (C := RX2) (T := TX2) (N := 2) hx hb hts i_X2 hown hK hP 0 rfl rfl 0 (by decide) (hts (Cond.fieldLink RX2 11 "BrownClock$History" "states" "[LBrownClock$State;") (List.mem_of_getElem? (i := 1) rfl)) (fun _ h9 => h9) rfl dX2_forgetOldest_26 ?_
                refine lv_iload_n hx hb dX2_forgetOldest_29 rfl (lv_at hl 0 rfl) ?_
                refine k_saald hx hb hK hP 1 rfl 7 rfl (by decide) (Nat.le_of_ble_eq_true rfl) (v := (ad 7 0)) rfl dX2_forgetOldest_30 ?_
                obtain ⟨qk, vs, hqk⟩ := hs_cell (ty := ty) (ad := ad) (hr := ur) (hx := ux) (hy := uy) (hg := ug) [[ob h 2 [.ref hs, .int cv]], [sa ty hs 14 (va_up (va_up (va_up (va_up (va_up (va_up (fun k => some (ad k 0)) 0 (some (ad 1 0))) 1 (some (ad 2 0))) 2 (some (ad 3 0))) 3 (some (ad 4 0))) 4 (some (ad 5 0))) 5 (some (ad 6 0)))]] 7 (by decide)
                refine k_sast hx hb hK hP hD hS 1 qk rfl hqk 6 rfl (by decide) (Nat.le_of_ble_eq_true rfl) dX2_forgetOldest_31 (fun H locs hP hD hS => ?_)
                have hP : va_P D vwCl (fl [[ob h 2 [.ref hs, .int cv]], [sa ty hs 14 (va_up (va_up (va_up (va_up (va_up (va_up (va_up (fun k => some (ad k 0)) 0 (some (ad 1 0))) 1 (some (ad 2 0))) 2 (some (ad 3 0))) 3 (some (ad 4 0))) 4 (some (ad 5 0))) 5 (some (ad 6 0))) 6 (some (ad 7 0)))], (hsW ty ad ur ux uy ug)]) H := hP
                have hD : va_D A (fl [[ob h 2 [.ref hs, .int cv]], [sa ty hs 14 (va_up (va_up (va_up (va_up (va_up (va_up (va_up (fun k => some (ad k 0)) 0 (some (ad 1 0))) 1 (some (ad 2 0))) 2 (some (ad 3 0))) 3 (some (ad 4 0))) 4 (some (ad 5 0))) 5 (some (ad 6 0))) 6 (some (ad 7 0)))], (hsW ty ad ur ux uy ug)]) := hD
                refine lv_iinc (v := 8) (lv' := [(2, .int 8), (1, .ref (ad 0 0)), (0, .ref h)]) hx hb dX2_forgetOldest_32 hl (k := 0) rfl (by decide) (by decide) rfl (fun ls hl => ?_)
                refine lv_goto (tgt := 9) hx hb dX2_forgetOldest_35 (by decide) ?_
                refine lv_iload_n hx hb dX2_forgetOldest_9 rfl (lv_at hl 0 rfl) ?_
                refine lv_aload_n hx hb dX2_forgetOldest_10 rfl (lv_at hl 2 rfl) ?_
                refine va_get (D := D) (ci := 2) (v := .ref hs) (C := RX2) (T := TX2) (N := 2) hx hb hts i_X2 hown hK hP 0 rfl rfl 0 (by decide) (hts (Cond.fieldLink RX2 11 "BrownClock$History" "states" "[LBrownClock$State;") (List.mem_of_getElem? (i := 1) rfl)) (fun _ h9 => h9) rfl dX2_forgetOldest_11 ?_
                refine va_alen hx hb hK hP 1 3 rfl rfl (v := 14) rfl dX2_forgetOldest_14 ?_
                refine lv_icmp_ge (tgt := 38) hx hb dX2_forgetOldest_15 (by decide) (fun c_8 => ?_) (fun c_8 => ?_)
                · exact absurd c_8 (by decide)
                · skip
                  refine lv_aload_n hx hb dX2_forgetOldest_18 rfl (lv_at hl 2 rfl) ?_
                  refine va_get (D := D) (ci := 2) (v := .ref hs) (C := RX2) (T := TX2) (N := 2) hx hb hts i_X2 hown hK hP 0 rfl rfl 0 (by decide) (hts (Cond.fieldLink RX2 11 "BrownClock$History" "states" "[LBrownClock$State;") (List.mem_of_getElem? (i := 1) rfl)) (fun _ h9 => h9) rfl dX2_forgetOldest_19 ?_
                  refine lv_iload_n hx hb dX2_forgetOldest_22 rfl (lv_at hl 0 rfl) ?_
                  refine lv_iconst (v := 1) hx hb dX2_forgetOldest_23 (by decide) ?_
                  refine k_isub (v := 7) hx hb dX2_forgetOldest_24 (by decide) ?_
                  refine lv_aload_n hx hb dX2_forgetOldest_25 rfl (lv_at hl 2 rfl) ?_
                  refine va_get (D := D) (ci := 2) (v := .ref hs) (C := RX2) (T := TX2) (N := 2) hx hb hts i_X2 hown hK hP 0 rfl rfl 0 (by decide) (hts (Cond.fieldLink RX2 11 "BrownClock$History" "states" "[LBrownClock$State;") (List.mem_of_getElem? (i := 1) rfl)) (fun _ h9 => h9) rfl dX2_forgetOldest_26 ?_
                  refine lv_iload_n hx hb dX2_forgetOldest_29 rfl (lv_at hl 0 rfl) ?_
                  refine k_saald hx hb hK hP 1 rfl 8 rfl (by decide) (Nat.le_of_ble_eq_true rfl) (v := (ad 8 0)) rfl dX2_forgetOldest_30 ?_
                  obtain ⟨qk, vs, hqk⟩ := hs_cell (ty := ty) (ad := ad) (hr := ur) (hx := ux) (hy := uy) (hg := ug) [[ob h 2 [.ref hs, .int cv]], [sa ty hs 14 (va_up (va_up (va_up (va_up (va_up (va_up (va_up (fun k => some (ad k 0)) 0 (some (ad 1 0))) 1 (some (ad 2 0))) 2 (some (ad 3 0))) 3 (some (ad 4 0))) 4 (some (ad 5 0))) 5 (some (ad 6 0))) 6 (some (ad 7 0)))]] 8 (by decide)
                  refine k_sast hx hb hK hP hD hS 1 qk rfl hqk 7 rfl (by decide) (Nat.le_of_ble_eq_true rfl) dX2_forgetOldest_31 (fun H locs hP hD hS => ?_)
                  have hP : va_P D vwCl (fl [[ob h 2 [.ref hs, .int cv]], [sa ty hs 14 (va_up (va_up (va_up (va_up (va_up (va_up (va_up (va_up (fun k => some (ad k 0)) 0 (some (ad 1 0))) 1 (some (ad 2 0))) 2 (some (ad 3 0))) 3 (some (ad 4 0))) 4 (some (ad 5 0))) 5 (some (ad 6 0))) 6 (some (ad 7 0))) 7 (some (ad 8 0)))], (hsW ty ad ur ux uy ug)]) H := hP
                  have hD : va_D A (fl [[ob h 2 [.ref hs, .int cv]], [sa ty hs 14 (va_up (va_up (va_up (va_up (va_up (va_up (va_up (va_up (fun k => some (ad k 0)) 0 (some (ad 1 0))) 1 (some (ad 2 0))) 2 (some (ad 3 0))) 3 (some (ad 4 0))) 4 (some (ad 5 0))) 5 (some (ad 6 0))) 6 (some (ad 7 0))) 7 (some (ad 8 0)))], (hsW ty ad ur ux uy ug)]) := hD
                  refine lv_iinc (v := 9) (lv' := [(2, .int 9), (1, .ref (ad 0 0)), (0, .ref h)]) hx hb dX2_forgetOldest_32 hl (k := 0) rfl (by decide) (by decide) rfl (fun ls hl => ?_)
                  refine lv_goto (tgt := 9) hx hb dX2_forgetOldest_35 (by decide) ?_
                  refine lv_iload_n hx hb dX2_forgetOldest_9 rfl (lv_at hl 0 rfl) ?_
                  refine lv_aload_n hx hb dX2_forgetOldest_10 rfl (lv_at hl 2 rfl) ?_
                  refine va_get (D := D) (ci := 2) (v := .ref hs) (C := RX2) (T := TX2) (N := 2) hx hb hts i_X2 hown hK hP 0 rfl rfl 0 (by decide) (hts (Cond.fieldLink RX2 11 "BrownClock$History" "states" "[LBrownClock$State;") (List.mem_of_getElem? (i := 1) rfl)) (fun _ h9 => h9) rfl dX2_forgetOldest_11 ?_
                  refine va_alen hx hb hK hP 1 3 rfl rfl (v := 14) rfl dX2_forgetOldest_14 ?_
                  refine lv_icmp_ge (tgt := 38) hx hb dX2_forgetOldest_15 (by decide) (fun c_9 => ?_) (fun c_9 => ?_)
                  · exact absurd c_9 (by decide)
                  · skip
                    refine lv_aload_n hx hb dX2_forgetOldest_18 rfl (lv_at hl 2 rfl) ?_
                    refine va_get (D := D) (ci := 2) (v := .ref hs) (C := RX2) (T := TX2) (N := 2) hx hb hts i_X2 hown hK hP 0 rfl rfl 0 (by decide) (hts (Cond.fieldLink RX2 11 "BrownClock$History" "states" "[LBrownClock$State;") (List.mem_of_getElem? (i := 1) rfl)) (fun _ h9 => h9) rfl dX2_forgetOldest_19 ?_
                    refine lv_iload_n hx hb dX2_forgetOldest_22 rfl (lv_at hl 0 rfl) ?_
                    refine lv_iconst (v := 1) hx hb dX2_forgetOldest_23 (by decide) ?_
                    refine k_isub (v := 8) hx hb dX2_forgetOldest_24 (by decide) ?_
                    refine lv_aload_n hx hb dX2_forgetOldest_25 rfl (lv_at hl 2 rfl) ?_
                    refine va_get (D := D) (ci := 2) (v := .ref hs) (C := RX2) (T := TX2) (N := 2) hx hb hts i_X2 hown hK hP 0 rfl rfl 0 (by decide) (hts (Cond.fieldLink RX2 11 "BrownClock$History" "states" "[LBrownClock$State;") (List.mem_of_getElem? (i := 1) rfl)) (fun _ h9 => h9) rfl dX2_forgetOldest_26 ?_
                    refine lv_iload_n hx hb dX2_forgetOldest_29 rfl (lv_at hl 0 rfl) ?_
                    refine k_saald hx hb hK hP 1 rfl 9 rfl (by decide) (Nat.le_of_ble_eq_true rfl) (v := (ad 9 0)) rfl dX2_forgetOldest_30 ?_
                    obtain ⟨qk, vs, hqk⟩ := hs_cell (ty := ty) (ad := ad) (hr := ur) (hx := ux) (hy := uy) (hg := ug) [[ob h 2 [.ref hs, .int cv]], [sa ty hs 14 (va_up (va_up (va_up (va_up (va_up (va_up (va_up (va_up (fun k => some (ad k 0)) 0 (some (ad 1 0))) 1 (some (ad 2 0))) 2 (some (ad 3 0))) 3 (some (ad 4 0))) 4 (some (ad 5 0))) 5 (some (ad 6 0))) 6 (some (ad 7 0))) 7 (some (ad 8 0)))]] 9 (by decide)
                    refine k_sast hx hb hK hP hD hS 1 qk rfl hqk 8 rfl (by decide) (Nat.le_of_ble_eq_true rfl) dX2_forgetOldest_31 (fun H locs hP hD hS => ?_)
                    have hP : va_P D vwCl (fl [[ob h 2 [.ref hs, .int cv]], [sa ty hs 14 (va_up (va_up (va_up (va_up (va_up (va_up (va_up (va_up (va_up (fun k => some (ad k 0)) 0 (some (ad 1 0))) 1 (some (ad 2 0))) 2 (some (ad 3 0))) 3 (some (ad 4 0))) 4 (some (ad 5 0))) 5 (some (ad 6 0))) 6 (some (ad 7 0))) 7 (some (ad 8 0))) 8 (some (ad 9 0)))], (hsW ty ad ur ux uy ug)]) H := hP
                    have hD : va_D A (fl [[ob h 2 [.ref hs, .int cv]], [sa ty hs 14 (va_up (va_up (va_up (va_up (va_up (va_up (va_up (va_up (va_up (fun k => some (ad k 0)) 0 (some (ad 1 0))) 1 (some (ad 2 0))) 2 (some (ad 3 0))) 3 (some (ad 4 0))) 4 (some (ad 5 0))) 5 (some (ad 6 0))) 6 (some (ad 7 0))) 7 (some (ad 8 0))) 8 (some (ad 9 0)))], (hsW ty ad ur ux uy ug)]) := hD
                    refine lv_iinc (v := 10) (lv' := [(2, .int 10), (1, .ref (ad 0 0)), (0, .ref h)]) hx hb dX2_forgetOldest_32 hl (k := 0) rfl (by decide) (by decide) rfl (fun ls hl => ?_)
                    refine lv_goto (tgt := 9) hx hb dX2_forgetOldest_35 (by decide) ?_
                    refine lv_iload_n hx hb dX2_forgetOldest_9 rfl (lv_at hl 0 rfl) ?_
                    refine lv_aload_n hx hb dX2_forgetOldest_10 rfl (lv_at hl 2 rfl) ?_
                    refine va_get (D := D) (ci := 2) (v := .ref hs) (C := RX2) (T := TX2) (N := 2) hx hb hts i_X2 hown hK hP 0 rfl rfl 0 (by decide) (hts (Cond.fieldLink RX2 11 "BrownClock$History" "states" "[LBrownClock$State;") (List.mem_of_getElem? (i := 1) rfl)) (fun _ h9 => h9) rfl dX2_forgetOldest_11 ?_
                    refine va_alen hx hb hK hP 1 3 rfl rfl (v := 14) rfl dX2_forgetOldest_14 ?_
                    refine lv_icmp_ge (tgt := 38) hx hb dX2_forgetOldest_15 (by decide) (fun c_10 => ?_) (fun c_10 => ?_)
                    · exact absurd c_10 (by decide)
                    · skip
                      refine lv_aload_n hx hb dX2_forgetOldest_18 rfl (lv_at hl 2 rfl) ?_
                      refine va_get (D := D) (ci := 2) (v := .ref hs) (C := RX2) (T := TX2) (N := 2) hx hb hts i_X2 hown hK hP 0 rfl rfl 0 (by decide) (hts (Cond.fieldLink RX2 11 "BrownClock$History" "states" "[LBrownClock$State;") (List.mem_of_getElem? (i := 1) rfl)) (fun _ h9 => h9) rfl dX2_forgetOldest_19 ?_
                      refine lv_iload_n hx hb dX2_forgetOldest_22 rfl (lv_at hl 0 rfl) ?_
                      refine lv_iconst (v := 1) hx hb dX2_forgetOldest_23 (by decide) ?_
                      refine k_isub (v := 9) hx hb dX2_forgetOldest_24 (by decide) ?_
                      refine lv_aload_n hx hb dX2_forgetOldest_25 rfl (lv_at hl 2 rfl) ?_
                      refine va_get (D := D) (ci := 2) (v := .ref hs) (C := RX2) (T := TX2) (N := 2) hx hb hts i_X2 hown hK hP 0 rfl rfl 0 (by decide) (hts (Cond.fieldLink RX2 11 "BrownClock$History" "states" "[LBrownClock$State;") (List.mem_of_getElem? (i := 1) rfl)) (fun _ h9 => h9) rfl dX2_forgetOldest_26 ?_
                      refine lv_iload_n hx hb dX2_forgetOldest_29 rfl (lv_at hl 0 rfl) ?_
                      refine k_saald hx hb hK hP 1 rfl 10 rfl (by decide) (Nat.le_of_ble_eq_true rfl) (v := (ad 10 0)) rfl dX2_forgetOldest_30 ?_
                      obtain ⟨qk, vs, hqk⟩ := hs_cell (ty := ty) (ad := ad) (hr := ur) (hx := ux) (hy := uy) (hg := ug) [[ob h 2 [.ref hs, .int cv]], [sa ty hs 14 (va_up (va_up (va_up (va_up (va_up (va_up (va_up (va_up (va_up (fun k => some (ad k 0)) 0 (some (ad 1 0))) 1 (some (ad 2 0))) 2 (some (ad 3 0))) 3 (some (ad 4 0))) 4 (some (ad 5 0))) 5 (some (ad 6 0))) 6 (some (ad 7 0))) 7 (some (ad 8 0))) 8 (some (ad 9 0)))]] 10 (by decide)
                      refine k_sast hx hb hK hP hD hS 1 qk rfl hqk 9 rfl (by decide) (Nat.le_of_ble_eq_true rfl) dX2_forgetOldest_31 (fun H locs hP hD hS => ?_)
                      have hP : va_P D vwCl (fl [[ob h 2 [.ref hs, .int cv]], [sa ty hs 14 (va_up (va_up (va_up (va_up (va_up (va_up (va_up (va_up (va_up (va_up (fun k => some (ad k 0)) 0 (some (ad 1 0))) 1 (some (ad 2 0))) 2 (some (ad 3 0))) 3 (some (ad 4 0))) 4 (some (ad 5 0))) 5 (some (ad 6 0))) 6 (some (ad 7 0))) 7 (some (ad 8 0))) 8 (some (ad 9 0))) 9 (some (ad 10 0)))], (hsW ty ad ur ux uy ug)]) H := hP
                      have hD : va_D A (fl [[ob h 2 [.ref hs, .int cv]], [sa ty hs 14 (va_up (va_up (va_up (va_up (va_up (va_up (va_up (va_up (va_up (va_up (fun k => some (ad k 0)) 0 (some (ad 1 0))) 1 (some (ad 2 0))) 2 (some (ad 3 0))) 3 (some (ad 4 0))) 4 (some (ad 5 0))) 5 (some (ad 6 0))) 6 (some (ad 7 0))) 7 (some (ad 8 0))) 8 (some (ad 9 0))) 9 (some (ad 10 0)))], (hsW ty ad ur ux uy ug)]) := hD
                      refine lv_iinc (v := 11) (lv' := [(2, .int 11), (1, .ref (ad 0 0)), (0, .ref h)]) hx hb dX2_forgetOldest_32 hl (k := 0) rfl (by decide) (by decide) rfl (fun ls hl => ?_)
                      refine lv_goto (tgt := 9) hx hb dX2_forgetOldest_35 (by decide) ?_
                      refine lv_iload_n hx hb dX2_forgetOldest_9 rfl (lv_at hl 0 rfl) ?_
                      refine lv_aload_n hx hb dX2_forgetOldest_10 rfl (lv_at hl 2 rfl) ?_
                      refine va_get (D := D) (ci := 2) (v := .ref hs) (C := RX2) (T := TX2) (N := 2) hx hb hts i_X2 hown hK hP 0 rfl rfl 0 (by decide) (hts (Cond.fieldLink RX2 11 "BrownClock$History" "states" "[LBrownClock$State;") (List.mem_of_getElem? (i := 1) rfl)) (fun _ h9 => h9) rfl dX2_forgetOldest_11 ?_
                      refine va_alen hx hb hK hP 1 3 rfl rfl (v := 14) rfl dX2_forgetOldest_14 ?_
                      refine lv_icmp_ge (tgt := 38) hx hb dX2_forgetOldest_15 (by decide) (fun c_11 => ?_) (fun c_11 => ?_)
                      · exact absurd c_11 (by decide)
                      · skip
                        refine lv_aload_n hx hb dX2_forgetOldest_18 rfl (lv_at hl 2 rfl) ?_
                        refine va_get (D := D) (ci := 2) (v := .ref hs) (C := RX2) (T := TX2) (N := 2) hx hb hts i_X2 hown hK hP 0 rfl rfl 0 (by decide) (hts (Cond.fieldLink RX2 11 "BrownClock$History" "states" "[LBrownClock$State;") (List.mem_of_getElem? (i := 1) rfl)) (fun _ h9 => h9) rfl dX2_forgetOldest_19 ?_
                        refine lv_iload_n hx hb dX2_forgetOldest_22 rfl (lv_at hl 0 rfl) ?_
                        refine lv_iconst (v := 1) hx hb dX2_forgetOldest_23 (by decide) ?_
                        refine k_isub (v := 10) hx hb dX2_forgetOldest_24 (by decide) ?_
                        refine lv_aload_n hx hb dX2_forgetOldest_25 rfl (lv_at hl 2 rfl) ?_
                        refine va_get (D := D) (ci := 2) (v := .ref hs) (C := RX2) (T := TX2) (N := 2) hx hb hts i_X2 hown hK hP 0 rfl rfl 0 (by decide) (hts (Cond.fieldLink RX2 11 "BrownClock$History" "states" "[LBrownClock$State;") (List.mem_of_getElem? (i := 1) rfl)) (fun _ h9 => h9) rfl dX2_forgetOldest_26 ?_
                        refine lv_iload_n hx hb dX2_forgetOldest_29 rfl (lv_at hl 0 rfl) ?_
                        refine k_saald hx hb hK hP 1 rfl 11 rfl (by decide) (Nat.le_of_ble_eq_true rfl) (v := (ad 11 0)) rfl dX2_forgetOldest_30 ?_
                        obtain ⟨qk, vs, hqk⟩ := hs_cell (ty := ty) (ad := ad) (hr := ur) (hx := ux) (hy := uy) (hg := ug) [[ob h 2 [.ref hs, .int cv]], [sa ty hs 14 (va_up (va_up (va_up (va_up (va_up (va_up (va_up (va_up (va_up (va_up (fun k => some (ad k 0)) 0 (some (ad 1 0))) 1 (some (ad 2 0))) 2 (some (ad 3 0))) 3 (some (ad 4 0))) 4 (some (ad 5 0))) 5 (some (ad 6 0))) 6 (some (ad 7 0))) 7 (some (ad 8 0))) 8 (some (ad 9 0))) 9 (some (ad 10 0)))]] 11 (by decide)
                        refine k_sast hx hb hK hP hD hS 1 qk rfl hqk 10 rfl (by decide) (Nat.le_of_ble_eq_true rfl) dX2_forgetOldest_31 (fun H locs hP hD hS => ?_)
                        have hP : va_P D vwCl (fl [[ob h 2 [.ref hs, .int cv]], [sa ty hs 14 (va_up (va_up (va_up (va_up (va_up (va_up (va_up (va_up (va_up (va_up (va_up (fun k => some (ad k 0)) 0 (some (ad 1 0))) 1 (some (ad 2 0))) 2 (some (ad 3 0))) 3 (some (ad 4 0))) 4 (some (ad 5 0))) 5 (some (ad 6 0))) 6 (some (ad 7 0))) 7 (some (ad 8 0))) 8 (some (ad 9 0))) 9 (some (ad 10 0))) 10 (some (ad 11 0)))], (hsW ty ad ur ux uy ug)]) H := hP
                        have hD : va_D A (fl [[ob h 2 [.ref hs, .int cv]], [sa ty hs 14 (va_up (va_up (va_up (va_up (va_up (va_up (va_up (va_up (va_up (va_up (va_up (fun k => some (ad k 0)) 0 (some (ad 1 0))) 1 (some (ad 2 0))) 2 (some (ad 3 0))) 3 (some (ad 4 0))) 4 (some (ad 5 0))) 5 (some (ad 6 0))) 6 (some (ad 7 0))) 7 (some (ad 8 0))) 8 (some (ad 9 0))) 9 (some (ad 10 0))) 10 (some (ad 11 0)))], (hsW ty ad ur ux uy ug)]) := hD
                        refine lv_iinc (v := 12) (lv' := [(2, .int 12), (1, .ref (ad 0 0)), (0, .ref h)]) hx hb dX2_forgetOldest_32 hl (k := 0) rfl (by decide) (by decide) rfl (fun ls hl => ?_)
                        refine lv_goto (tgt := 9) hx hb dX2_forgetOldest_35 (by decide) ?_
                        refine lv_iload_n hx hb dX2_forgetOldest_9 rfl (lv_at hl 0 rfl) ?_
                        refine lv_aload_n hx hb dX2_forgetOldest_10 rfl (lv_at hl 2 rfl) ?_
                        refine va_get (D := D) (ci := 2) (v := .ref hs) (C := RX2) (T := TX2) (N := 2) hx hb hts i_X2 hown hK hP 0 rfl rfl 0 (by decide) (hts (Cond.fieldLink RX2 11 "BrownClock$History" "states" "[LBrownClock$State;") (List.mem_of_getElem? (i := 1) rfl)) (fun _ h9 => h9) rfl dX2_forgetOldest_11 ?_
                        refine va_alen hx hb hK hP 1 3 rfl rfl (v := 14) rfl dX2_forgetOldest_14 ?_
                        refine lv_icmp_ge (tgt := 38) hx hb dX2_forgetOldest_15 (by decide) (fun c_12 => ?_) (fun c_12 => ?_)
                        · exact absurd c_12 (by decide)
                        · skip
                          refine lv_aload_n hx hb dX2_forgetOldest_18 rfl (lv_at hl 2 rfl) ?_
                          refine va_get (D := D) (ci := 2) (v := .ref hs) (C := RX2) (T := TX2) (N := 2) hx hb hts i_X2 hown hK hP 0 rfl rfl 0 (by decide) (hts (Cond.fieldLink RX2 11 "BrownClock$History" "states" "[LBrownClock$State;") (List.mem_of_getElem? (i := 1) rfl)) (fun _ h9 => h9) rfl dX2_forgetOldest_19 ?_
                          refine lv_iload_n hx hb dX2_forgetOldest_22 rfl (lv_at hl 0 rfl) ?_
                          refine lv_iconst (v := 1) hx hb dX2_forgetOldest_23 (by decide) ?_
                          refine k_isub (v := 11) hx hb dX2_forgetOldest_24 (by decide) ?_
                          refine lv_aload_n hx hb dX2_forgetOldest_25 rfl (lv_at hl 2 rfl) ?_
                          refine va_get (D := D) (ci := 2) (v := .ref hs) (C := RX2) (T := TX2) (N := 2) hx hb hts i_X2 hown hK hP 0 rfl rfl 0 (by decide) (hts (Cond.fieldLink RX2 11 "BrownClock$History" "states" "[LBrownClock$State;") (List.mem_of_getElem? (i := 1) rfl)) (fun _ h9 => h9) rfl dX2_forgetOldest_26 ?_
                          refine lv_iload_n hx hb dX2_forgetOldest_29 rfl (lv_at hl 0 rfl) ?_
                          refine k_saald hx hb hK hP 1 rfl 12 rfl (by decide) (Nat.le_of_ble_eq_true rfl) (v := (ad 12 0)) rfl dX2_forgetOldest_30 ?_
                          obtain ⟨qk, vs, hqk⟩ := hs_cell (ty := ty) (ad := ad) (hr := ur) (hx := ux) (hy := uy) (hg := ug) [[ob h 2 [.ref hs, .int cv]], [sa ty hs 14 (va_up (va_up (va_up (va_up (va_up (va_up (va_up (va_up (va_up (va_up (va_up (fun k => some (ad k 0)) 0 (some (ad 1 0))) 1 (some (ad 2 0))) 2 (some (ad 3 0))) 3 (some (ad 4 0))) 4 (some (ad 5 0))) 5 (some (ad 6 0))) 6 (some (ad 7 0))) 7 (some (ad 8 0))) 8 (some (ad 9 0))) 9 (some (ad 10 0))) 10 (some (ad 11 0)))]] 12 (by decide)
                          refine k_sast hx hb hK hP hD hS 1 qk rfl hqk 11 rfl (by decide) (Nat.le_of_ble_eq_true rfl) dX2_forgetOldest_31 (fun H locs hP hD hS => ?_)
                          have hP : va_P D vwCl (fl [[ob h 2 [.ref hs, .int cv]], [sa ty hs 14 (va_up (va_up (va_up (va_up (va_up (va_up (va_up (va_up (va_up (va_up (va_up (va_up (fun k => some (ad k 0)) 0 (some (ad 1 0))) 1 (some (ad 2 0))) 2 (some (ad 3 0))) 3 (some (ad 4 0))) 4 (some (ad 5 0))) 5 (some (ad 6 0))) 6 (some (ad 7 0))) 7 (some (ad 8 0))) 8 (some (ad 9 0))) 9 (some (ad 10 0))) 10 (some (ad 11 0))) 11 (some (ad 12 0)))], (hsW ty ad ur ux uy ug)]) H := hP
                          have hD : va_D A (fl [[ob h 2 [.ref hs, .int cv]], [sa ty hs 14 (va_up (va_up (va_up (va_up (va_up (va_up (va_up (va_up (va_up (va_up (va_up (va_up (fun k => some (ad k 0)) 0 (some (ad 1 0))) 1 (some (ad 2 0))) 2 (some (ad 3 0))) 3 (some (ad 4 0))) 4 (some (ad 5 0))) 5 (some (ad 6 0))) 6 (some (ad 7 0))) 7 (some (ad 8 0))) 8 (some (ad 9 0))) 9 (some (ad 10 0))) 10 (some (ad 11 0))) 11 (some (ad 12 0)))], (hsW ty ad ur ux uy ug)]) := hD
                          refine lv_iinc (v := 13) (lv' := [(2, .int 13), (1, .ref (ad 0 0)), (0, .ref h)]) hx hb dX2_forgetOldest_32 hl (k := 0) rfl (by decide) (by decide) rfl (fun ls hl => ?_)
                          refine lv_goto (tgt := 9) hx hb dX2_forgetOldest_35 (by decide) ?_
                          refine lv_iload_n hx hb dX2_forgetOldest_9 rfl (lv_at hl 0 rfl) ?_
                          refine lv_aload_n hx hb dX2_forgetOldest_10 rfl (lv_at hl 2 rfl) ?_
                          refine va_get (D := D) (ci := 2) (v := .ref hs) (C := RX2) (T := TX2) (N := 2) hx hb hts i_X2 hown hK hP 0 rfl rfl 0 (by decide) (hts (Cond.fieldLink RX2 11 "BrownClock$History" "states" "[LBrownClock$State;") (List.mem_of_getElem? (i := 1) rfl)) (fun _ h9 => h9) rfl dX2_forgetOldest_11 ?_
                          refine va_alen hx hb hK hP 1 3 rfl rfl (v := 14) rfl dX2_forgetOldest_14 ?_
                          refine lv_icmp_ge (tgt := 38) hx hb dX2_forgetOldest_15 (by decide) (fun c_13 => ?_) (fun c_13 => ?_)
                          · exact absurd c_13 (by decide)
                          · skip
                            refine lv_aload_n hx hb dX2_forgetOldest_18 rfl (lv_at hl 2 rfl) ?_
                            refine va_get (D := D) (ci := 2) (v := .ref hs) (C := RX2) (T := TX2) (N := 2) hx hb hts i_X2 hown hK hP 0 rfl rfl 0 (by decide) (hts (Cond.fieldLink RX2 11 "BrownClock$History" "states" "[LBrownClock$State;") (List.mem_of_getElem? (i := 1) rfl)) (fun _ h9 => h9) rfl dX2_forgetOldest_19 ?_
                            refine lv_iload_n hx hb dX2_forgetOldest_22 rfl (lv_at hl 0 rfl) ?_
                            refine lv_iconst (v := 1) hx hb dX2_forgetOldest_23 (by decide) ?_
                            refine k_isub (v := 12) hx hb dX2_forgetOldest_24 (by decide) ?_
                            refine lv_aload_n hx hb dX2_forgetOldest_25 rfl (lv_at hl 2 rfl) ?_
                            refine va_get (D := D) (ci := 2) (v := .ref hs) (C := RX2) (T := TX2) (N := 2) hx hb hts i_X2 hown hK hP 0 rfl rfl 0 (by decide) (hts (Cond.fieldLink RX2 11 "BrownClock$History" "states" "[LBrownClock$State;") (List.mem_of_getElem? (i := 1) rfl)) (fun _ h9 => h9) rfl dX2_forgetOldest_26 ?_
                            refine lv_iload_n hx hb dX2_forgetOldest_29 rfl (lv_at hl 0 rfl) ?_
                            refine k_saald hx hb hK hP 1 rfl 13 rfl (by decide) (Nat.le_of_ble_eq_true rfl) (v := (ad 13 0)) rfl dX2_forgetOldest_30 ?_
                            obtain ⟨qk, vs, hqk⟩ := hs_cell (ty := ty) (ad := ad) (hr := ur) (hx := ux) (hy := uy) (hg := ug) [[ob h 2 [.ref hs, .int cv]], [sa ty hs 14 (va_up (va_up (va_up (va_up (va_up (va_up (va_up (va_up (va_up (va_up (va_up (va_up (fun k => some (ad k 0)) 0 (some (ad 1 0))) 1 (some (ad 2 0))) 2 (some (ad 3 0))) 3 (some (ad 4 0))) 4 (some (ad 5 0))) 5 (some (ad 6 0))) 6 (some (ad 7 0))) 7 (some (ad 8 0))) 8 (some (ad 9 0))) 9 (some (ad 10 0))) 10 (some (ad 11 0))) 11 (some (ad 12 0)))]] 13 (by decide)
                            refine k_sast hx hb hK hP hD hS 1 qk rfl hqk 12 rfl (by decide) (Nat.le_of_ble_eq_true rfl) dX2_forgetOldest_31 (fun H locs hP hD hS => ?_)
                            have hP : va_P D vwCl (fl [[ob h 2 [.ref hs, .int cv]], [sa ty hs 14 (va_up (va_up (va_up (va_up (va_up (va_up (va_up (va_up (va_up (va_up (va_up (va_up (va_up (fun k => some (ad k 0)) 0 (some (ad 1 0))) 1 (some (ad 2 0))) 2 (some (ad 3 0))) 3 (some (ad 4 0))) 4 (some (ad 5 0))) 5 (some (ad 6 0))) 6 (some (ad 7 0))) 7 (some (ad 8 0))) 8 (some (ad 9 0))) 9 (some (ad 10 0))) 10 (some (ad 11 0))) 11 (some (ad 12 0))) 12 (some (ad 13 0)))], (hsW ty ad ur ux uy ug)]) H := hP
                            have hD : va_D A (fl [[ob h 2 [.ref hs, .int cv]], [sa ty hs 14 (va_up (va_up (va_up (va_up (va_up (va_up (va_up (va_up (va_up (va_up (va_up (va_up (va_up (fun k => some (ad k 0)) 0 (some (ad 1 0))) 1 (some (ad 2 0))) 2 (some (ad 3 0))) 3 (some (ad 4 0))) 4 (some (ad 5 0))) 5 (some (ad 6 0))) 6 (some (ad 7 0))) 7 (some (ad 8 0))) 8 (some (ad 9 0))) 9 (some (ad 10 0))) 10 (some (ad 11 0))) 11 (some (ad 12 0))) 12 (some (ad 13 0)))], (hsW ty ad ur ux uy ug)]) := hD
                            refine lv_iinc (v := 14) (lv' := [(2, .int 14), (1, .ref (ad 0 0)), (0, .ref h)]) hx hb dX2_forgetOldest_32 hl (k := 0) rfl (by decide) (by decide) rfl (fun ls hl => ?_)
                            refine lv_goto (tgt := 9) hx hb dX2_forgetOldest_35 (by decide) ?_
                            refine lv_iload_n hx hb dX2_forgetOldest_9 rfl (lv_at hl 0 rfl) ?_
                            refine lv_aload_n hx hb dX2_forgetOldest_10 rfl (lv_at hl 2 rfl) ?_
                            refine va_get (D := D) (ci := 2) (v := .ref hs) (C := RX2) (T := TX2) (N := 2) hx hb hts i_X2 hown hK hP 0 rfl rfl 0 (by decide) (hts (Cond.fieldLink RX2 11 "BrownClock$History" "states" "[LBrownClock$State;") (List.mem_of_getElem? (i := 1) rfl)) (fun _ h9 => h9) rfl dX2_forgetOldest_11 ?_
                            refine va_alen hx hb hK hP 1 3 rfl rfl (v := 14) rfl dX2_forgetOldest_14 ?_
                            refine lv_icmp_ge (tgt := 38) hx hb dX2_forgetOldest_15 (by decide) (fun c_14 => ?_) (fun c_14 => ?_)
                            · skip
                              refine lv_aload_n hx hb dX2_forgetOldest_38 rfl (lv_at hl 2 rfl) ?_
                              refine va_get (D := D) (ci := 2) (v := .ref hs) (C := RX2) (T := TX2) (N := 2) hx hb hts i_X2 hown hK hP 0 rfl rfl 0 (by decide) (hts (Cond.fieldLink RX2 11 "BrownClock$History" "states" "[LBrownClock$State;") (List.mem_of_getElem? (i := 1) rfl)) (fun _ h9 => h9) rfl dX2_forgetOldest_39 ?_
                              refine lv_bipush (v := 13) hx hb dX2_forgetOldest_42 (by decide) ?_
                              refine lv_aload_n hx hb dX2_forgetOldest_44 rfl (lv_at hl 1 rfl) ?_
                              obtain ⟨qk, vs, hqk⟩ := hs_cell (ty := ty) (ad := ad) (hr := ur) (hx := ux) (hy := uy) (hg := ug) [[ob h 2 [.ref hs, .int cv]], [sa ty hs 14 (va_up (va_up (va_up (va_up (va_up (va_up (va_up (va_up (va_up (va_up (va_up (va_up (va_up (fun k => some (ad k 0)) 0 (some (ad 1 0))) 1 (some (ad 2 0))) 2 (some (ad 3 0))) 3 (some (ad 4 0))) 4 (some (ad 5 0))) 5 (some (ad 6 0))) 6 (some (ad 7 0))) 7 (some (ad 8 0))) 8 (some (ad 9 0))) 9 (some (ad 10 0))) 10 (some (ad 11 0))) 11 (some (ad 12 0))) 12 (some (ad 13 0)))]] 0 (by decide)
                              refine k_sast hx hb hK hP hD hS 1 qk rfl hqk 13 rfl (by decide) (Nat.le_of_ble_eq_true rfl) dX2_forgetOldest_45 (fun H locs hP hD hS => ?_)
                              have hP : va_P D vwCl (fl [[ob h 2 [.ref hs, .int cv]], [sa ty hs 14 (va_up (va_up (va_up (va_up (va_up (va_up (va_up (va_up (va_up (va_up (va_up (va_up (va_up (va_up (fun k => some (ad k 0)) 0 (some (ad 1 0))) 1 (some (ad 2 0))) 2 (some (ad 3 0))) 3 (some (ad 4 0))) 4 (some (ad 5 0))) 5 (some (ad 6 0))) 6 (some (ad 7 0))) 7 (some (ad 8 0))) 8 (some (ad 9 0))) 9 (some (ad 10 0))) 10 (some (ad 11 0))) 11 (some (ad 12 0))) 12 (some (ad 13 0))) 13 (some (ad 0 0)))], (hsW ty ad ur ux uy ug)]) H := hP
                              have hD : va_D A (fl [[ob h 2 [.ref hs, .int cv]], [sa ty hs 14 (va_up (va_up (va_up (va_up (va_up (va_up (va_up (va_up (va_up (va_up (va_up (va_up (va_up (va_up (fun k => some (ad k 0)) 0 (some (ad 1 0))) 1 (some (ad 2 0))) 2 (some (ad 3 0))) 3 (some (ad 4 0))) 4 (some (ad 5 0))) 5 (some (ad 6 0))) 6 (some (ad 7 0))) 7 (some (ad 8 0))) 8 (some (ad 9 0))) 9 (some (ad 10 0))) 10 (some (ad 11 0))) 11 (some (ad 12 0))) 12 (some (ad 13 0))) 13 (some (ad 0 0)))], (hsW ty ad ur ux uy ug)]) := hD
                              refine lv_aload_n hx hb dX2_forgetOldest_46 rfl (lv_at hl 2 rfl) ?_
                              refine lv_bipush (v := 13) hx hb dX2_forgetOldest_47 (by decide) ?_
                              refine va_put (D := D) (ci := 2) (v := .int 13) (ty := .int) (C := RX2) (T := TX2) (N := 2) hx hb hts i_X2 tyX2 tyX2_ok nmX2 hown hK hP hD hS 0 rfl rfl 1 (by decide) (hts (Cond.fieldLink RX2 18 "BrownClock$History" "count" "I") (List.mem_of_getElem? (i := 2) rfl)) (fun _ h9 => h9) rfl (by decide +kernel) rfl rfl (Nat.le_of_ble_eq_true rfl) dX2_forgetOldest_49 (fun H locs hP hD hS => ?_)
                              have hP : va_P D vwCl (fl [[ob h 2 [.ref hs, .int 13]], [sa ty hs 14 (va_up (va_up (va_up (va_up (va_up (va_up (va_up (va_up (va_up (va_up (va_up (va_up (va_up (va_up (fun k => some (ad k 0)) 0 (some (ad 1 0))) 1 (some (ad 2 0))) 2 (some (ad 3 0))) 3 (some (ad 4 0))) 4 (some (ad 5 0))) 5 (some (ad 6 0))) 6 (some (ad 7 0))) 7 (some (ad 8 0))) 8 (some (ad 9 0))) 9 (some (ad 10 0))) 10 (some (ad 11 0))) 11 (some (ad 12 0))) 12 (some (ad 13 0))) 13 (some (ad 0 0)))], (hsW ty ad ur ux uy ug)]) H := hP
                              have hD : va_D A (fl [[ob h 2 [.ref hs, .int 13]], [sa ty hs 14 (va_up (va_up (va_up (va_up (va_up (va_up (va_up (va_up (va_up (va_up (va_up (va_up (va_up (va_up (fun k => some (ad k 0)) 0 (some (ad 1 0))) 1 (some (ad 2 0))) 2 (some (ad 3 0))) 3 (some (ad 4 0))) 4 (some (ad 5 0))) 5 (some (ad 6 0))) 6 (some (ad 7 0))) 7 (some (ad 8 0))) 8 (some (ad 9 0))) 9 (some (ad 10 0))) 10 (some (ad 11 0))) 11 (some (ad 12 0))) 12 (some (ad 13 0))) 13 (some (ad 0 0)))], (hsW ty ad ur ux uy ug)]) := hD
                              have hP : va_P D vwCl (fl [[ob h 2 [.ref hs, .int 13]], [sa ty hs 14 (fun k => some ((rot ad) k 0))], (hsW ty ad ur ux uy ug)]) H := P_at (e1 := sa ty hs 14 (va_up (va_up (va_up (va_up (va_up (va_up (va_up (va_up (va_up (va_up (va_up (va_up (va_up (va_up (fun k => some (ad k 0)) 0 (some (ad 1 0))) 1 (some (ad 2 0))) 2 (some (ad 3 0))) 3 (some (ad 4 0))) 4 (some (ad 5 0))) 5 (some (ad 6 0))) 6 (some (ad 7 0))) 7 (some (ad 8 0))) 8 (some (ad 9 0))) 9 (some (ad 10 0))) 10 (some (ad 11 0))) 11 (some (ad 12 0))) 12 (some (ad 13 0))) 13 (some (ad 0 0)))) (e2 := sa ty hs 14 (fun k => some ((rot ad) k 0))) 1 (at_sa (fun k hk => by match k, hk with | 0, _ => rfl | 1, _ => rfl | 2, _ => rfl | 3, _ => rfl | 4, _ => rfl | 5, _ => rfl | 6, _ => rfl | 7, _ => rfl | 8, _ => rfl | 9, _ => rfl | 10, _ => rfl | 11, _ => rfl | 12, _ => rfl | 13, _ => rfl)) rfl rfl hP
                              have hP : va_P D vwCl (fl [[ob h 2 [.ref hs, .int 13]], [sa ty hs 14 (fun k => some ((rot ad) k 0))], (hsW ty (rot ad) (rot ur) (rot ux) (rot uy) (rot ug))]) H := P_perm (hs_rotp [[ob h 2 [.ref hs, .int 13]], [sa ty hs 14 (fun k => some ((rot ad) k 0))]]) hP
                              have hD : va_D A (fl [[ob h 2 [.ref hs, .int 13]], [sa ty hs 14 (va_up (va_up (va_up (va_up (va_up (va_up (va_up (va_up (va_up (va_up (va_up (va_up (va_up (va_up (fun k => some (ad k 0)) 0 (some (ad 1 0))) 1 (some (ad 2 0))) 2 (some (ad 3 0))) 3 (some (ad 4 0))) 4 (some (ad 5 0))) 5 (some (ad 6 0))) 6 (some (ad 7 0))) 7 (some (ad 8 0))) 8 (some (ad 9 0))) 9 (some (ad 10 0))) 10 (some (ad 11 0))) 11 (some (ad 12 0))) 12 (some (ad 13 0))) 13 (some (ad 0 0)))], (hsW ty (rot ad) (rot ur) (rot ux) (rot uy) (rot ug))]) := D_perm (hs_rotp [[ob h 2 [.ref hs, .int 13]], [sa ty hs 14 (va_up (va_up (va_up (va_up (va_up (va_up (va_up (va_up (va_up (va_up (va_up (va_up (va_up (va_up (fun k => some (ad k 0)) 0 (some (ad 1 0))) 1 (some (ad 2 0))) 2 (some (ad 3 0))) 3 (some (ad 4 0))) 4 (some (ad 5 0))) 5 (some (ad 6 0))) 6 (some (ad 7 0))) 7 (some (ad 8 0))) 8 (some (ad 9 0))) 9 (some (ad 10 0))) 10 (some (ad 11 0))) 11 (some (ad 12 0))) 12 (some (ad 13 0))) 13 (some (ad 0 0)))]]) hD
                              have hD : va_D A (fl [[ob h 2 [.ref hs, .int 13]], [sa ty hs 14 (fun k => some ((rot ad) k 0))], (hsW ty (rot ad) (rot ur) (rot ux) (rot uy) (rot ug))]) := (show va_D A (fl [[ob h 2 [.ref hs, .int 13]], [sa ty hs 14 (fun k => some ((rot ad) k 0))], (hsW ty (rot ad) (rot ur) (rot ux) (rot uy) (rot ug))]) from (D_rep 1 ([sa ty hs 14 (va_up (va_up (va_up (va_up (va_up (va_up (va_up (va_up (va_up (va_up (va_up (va_up (va_up (va_up (fun k => some (ad k 0)) 0 (some (ad 1 0))) 1 (some (ad 2 0))) 2 (some (ad 3 0))) 3 (some (ad 4 0))) 4 (some (ad 5 0))) 5 (some (ad 6 0))) 6 (some (ad 7 0))) 7 (some (ad 8 0))) 8 (some (ad 9 0))) 9 (some (ad 10 0))) 10 (some (ad 11 0))) 11 (some (ad 12 0))) 12 (some (ad 13 0))) 13 (some (ad 0 0)))]) ([sa ty hs 14 (fun k => some ((rot ad) k 0))]) ((show _ = [hs] from rfl).trans (show [hs] = _ from rfl)) rfl hD))
                              exact end_v (bs' := (fun (_ : Unit) => [[ob h 2 [.ref hs, .int 13]], [sa ty hs 14 (fun k => some ((rot ad) k 0))], (hsW ty (rot ad) (rot ur) (rot ux) (rot uy) (rot ug))])) () hx hb hr hlocks hP hD hS trivial (Nat.le_of_ble_eq_true rfl) (Nat.le_of_ble_eq_true rfl) dX2_forgetOldest_52
                            · exact absurd (by decide) c_14
