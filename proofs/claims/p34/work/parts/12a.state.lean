set_option maxHeartbeats 4000000 in
set_option maxRecDepth 100000 in
theorem c_X5_eraseRegisters (l : Launch) (D : va_G) (ty : Nat → ClassId) (h c1 c2 c3 q c5 : Nat) (v : Int32) (f : Nat → Int32) : CTv l yX5_eraseRegisters wsX5_eraseRegisters ({ frames := 0, cells := 0, slots := 0, locals := 0 }) D ty [.ref h] [[ob h 4 [.ref c1, .ref c2, .ref c3, .ref q, .ref c5, .int v]], [ia ty q 8 f]] (fun (_ : Unit) => True) (fun (_ : Unit) => [[ob h 4 [.ref c1, .ref c2, .ref c3, .ref q, .ref c5, .int v]], [ia ty q 8 (fun _ => 0)]]) := by
  refine CTv_of cX5_eraseRegisters 2 none (by decide) rfl (Nat.le_of_ble_eq_true rfl) ?_
  intro p e s m args below meth c A hx hb hr hml hown hlocks hin hts hA hX hK hP hD ls hl
  have hown : s.vm.findClass RX5 = some m.cls := hown
  have hS : va_S A s.heap s.heap [] := va_S.rf
  have i_X5 : ∀ z ∈ wsX50, z ∈ wsX5_eraseRegisters := fun z h => List.mem_cons_of_mem _ (List.mem_append_right _ h)
  have hl : lv_has ls 2 [(0, .ref h)] := hl
  refine lv_iconst (v := 0) hx hb dX5_eraseRegisters_0 (by decide) ?_
  refine lv_istore_n (lv' := [(1, .int 0), (0, .ref h)]) hx hb dX5_eraseRegisters_1 rfl hl (by decide) rfl (fun ls hl => ?_)
  refine lv_iload_n hx hb dX5_eraseRegisters_2 rfl (lv_at hl 0 rfl) ?_
  refine lv_aload_n hx hb dX5_eraseRegisters_3 rfl (lv_at hl 1 rfl) ?_
  refine va_get (D := D) (ci := 4) (v := .ref q) (C := RX5) (T := TX5) (N := 6) hx hb hts i_X5 hown hK hP 0 rfl rfl 3 (by decide) (hts (Cond.fieldLink RX5 32 "BrownClock$State" "registers" "[I") (List.mem_of_getElem? (i := 1) rfl)) (fun _ h9 => h9) rfl dX5_eraseRegisters_4 ?_
  refine va_alen hx hb hK hP 1 0 rfl rfl (v := 8) rfl dX5_eraseRegisters_7 ?_
  refine lv_icmp_ge (tgt := 24) hx hb dX5_eraseRegisters_8 (by decide) (fun c_1 => ?_) (fun c_1 => ?_)
  · exact absurd c_1 (by decide)
  · skip
    refine lv_aload_n hx hb dX5_eraseRegisters_11 rfl (lv_at hl 1 rfl) ?_
    refine va_get (D := D) (ci := 4) (v := .ref q) (C := RX5) (T := TX5) (N := 6) hx hb hts i_X5 hown hK hP 0 rfl rfl 3 (by decide) (hts (Cond.fieldLink RX5 32 "BrownClock$State" "registers" "[I") (List.mem_of_getElem? (i := 1) rfl)) (fun _ h9 => h9) rfl dX5_eraseRegisters_12 ?_
    refine lv_iload_n hx hb dX5_eraseRegisters_15 rfl (lv_at hl 0 rfl) ?_
    refine lv_iconst (v := 0) hx hb dX5_eraseRegisters_16 (by decide) ?_
    refine k_iast hx hb hK hP hD hS 1 rfl 0 rfl (by decide) (Nat.le_of_ble_eq_true rfl) dX5_eraseRegisters_17 (fun H locs hP hD hS => ?_)
    have hP : va_P D vwCl (fl [[ob h 4 [.ref c1, .ref c2, .ref c3, .ref q, .ref c5, .int v]], [ia ty q 8 (upd f 0 0)]]) H := hP
    have hD : va_D A (fl [[ob h 4 [.ref c1, .ref c2, .ref c3, .ref q, .ref c5, .int v]], [ia ty q 8 (upd f 0 0)]]) := hD
    refine lv_iinc (v := 1) (lv' := [(1, .int 1), (0, .ref h)]) hx hb dX5_eraseRegisters_18 hl (k := 0) rfl (by decide) (by decide) rfl (fun ls hl => ?_)
    refine lv_goto (tgt := 2) hx hb dX5_eraseRegisters_21 (by decide) ?_
    refine lv_iload_n hx hb dX5_eraseRegisters_2 rfl (lv_at hl 0 rfl) ?_
    refine lv_aload_n hx hb dX5_eraseRegisters_3 rfl (lv_at hl 1 rfl) ?_
    refine va_get (D := D) (ci := 4) (v := .ref q) (C := RX5) (T := TX5) (N := 6) hx hb hts i_X5 hown hK hP 0 rfl rfl 3 (by decide) (hts (Cond.fieldLink RX5 32 "BrownClock$State" "registers" "[I") (List.mem_of_getElem? (i := 1) rfl)) (fun _ h9 => h9) rfl dX5_eraseRegisters_4 ?_
    refine va_alen hx hb hK hP 1 0 rfl rfl (v := 8) rfl dX5_eraseRegisters_7 ?_
    refine lv_icmp_ge (tgt := 24) hx hb dX5_eraseRegisters_8 (by decide) (fun c_2 => ?_) (fun c_2 => ?_)
    · exact absurd c_2 (by decide)
    · skip
      refine lv_aload_n hx hb dX5_eraseRegisters_11 rfl (lv_at hl 1 rfl) ?_
      refine va_get (D := D) (ci := 4) (v := .ref q) (C := RX5) (T := TX5) (N := 6) hx hb hts i_X5 hown hK hP 0 rfl rfl 3 (by decide) (hts (Cond.fieldLink RX5 32 "BrownClock$State" "registers" "[I") (List.mem_of_getElem? (i := 1) rfl)) (fun _ h9 => h9) rfl dX5_eraseRegisters_12 ?_
      refine lv_iload_n hx hb dX5_eraseRegisters_15 rfl (lv_at hl 0 rfl) ?_
      refine lv_iconst (v := 0) hx hb dX5_eraseRegisters_16 (by decide) ?_
      refine k_iast hx hb hK hP hD hS 1 rfl 1 rfl (by decide) (Nat.le_of_ble_eq_true rfl) dX5_eraseRegisters_17 (fun H locs hP hD hS => ?_)
      have hP : va_P D vwCl (fl [[ob h 4 [.ref c1, .ref c2, .ref c3, .ref q, .ref c5, .int v]], [ia ty q 8 (upd (upd f 0 0) 1 0)]]) H := hP
      have hD : va_D A (fl [[ob h 4 [.ref c1, .ref c2, .ref c3, .ref q, .ref c5, .int v]], [ia ty q 8 (upd (upd f 0 0) 1 0)]]) := hD
      refine lv_iinc (v := 2) (lv' := [(1, .int 2), (0, .ref h)]) hx hb dX5_eraseRegisters_18 hl (k := 0) rfl (by decide) (by decide) rfl (fun ls hl => ?_)
      refine lv_goto (tgt := 2) hx hb dX5_eraseRegisters_21 (by decide) ?_
      refine lv_iload_n hx hb dX5_eraseRegisters_2 rfl (lv_at hl 0 rfl) ?_
      refine lv_aload_n hx hb dX5_eraseRegisters_3 rfl (lv_at hl 1 rfl) ?_
      refine va_get (D := D) (ci := 4) (v := .ref q) (C := RX5) (T := TX5) (N := 6) hx hb hts i_X5 hown hK hP 0 rfl rfl 3 (by decide) (hts (Cond.fieldLink RX5 32 "BrownClock$State" "registers" "[I") (List.mem_of_getElem? (i := 1) rfl)) (fun _ h9 => h9) rfl dX5_eraseRegisters_4 ?_
      refine va_alen hx hb hK hP 1 0 rfl rfl (v := 8) rfl dX5_eraseRegisters_7 ?_
      refine lv_icmp_ge (tgt := 24) hx hb dX5_eraseRegisters_8 (by decide) (fun c_3 => ?_) (fun c_3 => ?_)
      · exact absurd c_3 (by decide)
      · skip
        refine lv_aload_n hx hb dX5_eraseRegisters_11 rfl (lv_at hl 1 rfl) ?_
        refine va_get (D := D) (ci := 4) (v := .ref q) (C := RX5) (T := TX5) (N := 6) hx hb hts i_X5 hown hK hP 0 rfl rfl 3 (by decide) (hts (Cond.fieldLink RX5 32 "BrownClock$State" "registers" "[I") (List.mem_of_getElem? (i := 1) rfl)) (fun _ h9 => h9) rfl dX5_eraseRegisters_12 ?_
        refine lv_iload_n hx hb dX5_eraseRegisters_15 rfl (lv_at hl 0 rfl) ?_
        refine lv_iconst (v := 0) hx hb dX5_eraseRegisters_16 (by decide) ?_
        refine k_iast hx hb hK hP hD hS 1 rfl 2 rfl (by decide) (Nat.le_of_ble_eq_true rfl) dX5_eraseRegisters_17 (fun H locs hP hD hS => ?_)
        have hP : va_P D vwCl (fl [[ob h 4 [.ref c1, .ref c2, .ref c3, .ref q, .ref c5, .int v]], [ia ty q 8 (upd (upd (upd f 0 0) 1 0) 2 0)]]) H := hP
        have hD : va_D A (fl [[ob h 4 [.ref c1, .ref c2, .ref c3, .ref q, .ref c5, .int v]], [ia ty q 8 (upd (upd (upd f 0 0) 1 0) 2 0)]]) := hD
        refine lv_iinc (v := 3) (lv' := [(1, .int 3), (0, .ref h)]) hx hb dX5_eraseRegisters_18 hl (k := 0) rfl (by decide) (by decide) rfl (fun ls hl => ?_)
        refine lv_goto (tgt := 2) hx hb dX5_eraseRegisters_21 (by decide) ?_
        refine lv_iload_n hx hb dX5_eraseRegisters_2 rfl (lv_at hl 0 rfl) ?_
        refine lv_aload_n hx hb dX5_eraseRegisters_3 rfl (lv_at hl 1 rfl) ?_
        refine va_get (D := D) (ci := 4) (v := .ref q) (C := RX5) (T := TX5) (N := 6) hx hb hts i_X5 hown hK hP 0 rfl rfl 3 (by decide) (hts (Cond.fieldLink RX5 32 "BrownClock$State" "registers" "[I") (List.mem_of_getElem? (i := 1) rfl)) (fun _ h9 => h9) rfl dX5_eraseRegisters_4 ?_
        refine va_alen hx hb hK hP 1 0 rfl rfl (v := 8) rfl dX5_eraseRegisters_7 ?_
        refine lv_icmp_ge (tgt := 24) hx hb dX5_eraseRegisters_8 (by decide) (fun c_4 => ?_) (fun c_4 => ?_)
        · exact absurd c_4 (by decide)
        · skip
          refine lv_aload_n hx hb dX5_eraseRegisters_11 rfl (lv_at hl 1 rfl) ?_
          refine va_get (D := D) (ci := 4) (v := .ref q) (C := RX5) (T := TX5) (N := 6) hx hb hts i_X5 hown hK hP 0 rfl rfl 3 (by decide) (hts (Cond.fieldLink RX5 32 "BrownClock$State" "registers" "[I") (List.mem_of_getElem? (i := 1) rfl)) (fun _ h9 => h9) rfl dX5_eraseRegisters_12 ?_
          refine lv_iload_n hx hb dX5_eraseRegisters_15 rfl (lv_at hl 0 rfl) ?_
          refine lv_iconst (v := 0) hx hb dX5_eraseRegisters_16 (by decide) ?_
          refine k_iast hx hb hK hP hD hS 1 rfl 3 rfl (by decide) (Nat.le_of_ble_eq_true rfl) dX5_eraseRegisters_17 (fun H locs hP hD hS => ?_)
          have hP : va_P D vwCl (fl [[ob h 4 [.ref c1, .ref c2, .ref c3, .ref q, .ref c5, .int v]], [ia ty q 8 (upd (upd (upd (upd f 0 0) 1 0) 2 0) 3 0)]]) H := hP
          have hD : va_D A (fl [[ob h 4 [.ref c1, .ref c2, .ref c3, .ref q, .ref c5, .int v]], [ia ty q 8 (upd (upd (upd (upd f 0 0) 1 0) 2 0) 3 0)]]) := hD
          refine lv_iinc (v := 4) (lv' := [(1, .int 4), (0, .ref h)]) hx hb dX5_eraseRegisters_18 hl (k := 0) rfl (by decide) (by decide) rfl (fun ls hl => ?_)
          refine lv_goto (tgt := 2) hx hb dX5_eraseRegisters_21 (by decide) ?_
          refine lv_iload_n hx hb dX5_eraseRegisters_2 rfl (lv_at hl 0 rfl) ?_
          refine lv_aload_n hx hb dX5_eraseRegisters_3 rfl (lv_at hl 1 rfl) ?_
          refine va_get (D := D) (ci := 4) (v := .ref q) (C := RX5) (T := TX5) (N := 6) hx hb hts i_X5 hown hK hP 0 rfl rfl 3 (by decide) (hts (Cond.fieldLink RX5 32 "BrownClock$State" "registers" "[I") (List.mem_of_getElem? (i := 1) rfl)) (fun _ h9 => h9) rfl dX5_eraseRegisters_4 ?_
          refine va_alen hx hb hK hP 1 0 rfl rfl (v := 8) rfl dX5_eraseRegisters_7 ?_
          refine lv_icmp_ge (tgt := 24) hx hb dX5_eraseRegisters_8 (by decide) (fun c_5 => ?_) (fun c_5 => ?_)
          · exact absurd c_5 (by decide)
          · skip
            refine lv_aload_n hx hb dX5_eraseRegisters_11 rfl (lv_at hl 1 rfl) ?_
            refine va_get (D := D) (ci := 4) (v := .ref q) (C := RX5) (T := TX5) (N := 6) hx hb hts i_X5 hown hK hP 0 rfl rfl 3 (by decide) (hts (Cond.fieldLink RX5 32 "BrownClock$State" "registers" "[I") (List.mem_of_getElem? (i := 1) rfl)) (fun _ h9 => h9) rfl dX5_eraseRegisters_12 ?_
            refine lv_iload_n hx hb dX5_eraseRegisters_15 rfl (lv_at hl 0 rfl) ?_
            refine lv_iconst (v := 0) hx hb dX5_eraseRegisters_16 (by decide) ?_
            refine k_iast hx hb hK hP hD hS 1 rfl 4 rfl (by decide) (Nat.le_of_ble_eq_true rfl) dX5_eraseRegisters_17 (fun H locs hP hD hS => ?_)
            have hP : va_P D vwCl (fl [[ob h 4 [.ref c1, .ref c2, .ref c3, .ref q, .ref c5, .int v]], [ia ty q 8 (upd (upd (upd (upd (upd f 0 0) 1 0) 2 0) 3 0) 4 0)]]) H := hP
            have hD : va_D A (fl [[ob h 4 [.ref c1, .ref c2, .ref c3, .ref q, .ref c5, .int v]], [ia ty q 8 (upd (upd (upd (upd (upd f 0 0) 1 0) 2 0) 3 0) 4 0)]]) := hD
            refine lv_iinc (v := 5) (lv' := [(1, .int 5), (0, .ref h)]) hx hb dX5_eraseRegisters_18 hl (k := 0) rfl (by decide) (by decide) rfl (fun ls hl => ?_)
            refine lv_goto (tgt := 2) hx hb dX5_eraseRegisters_21 (by decide) ?_
            refine lv_iload_n hx hb dX5_eraseRegisters_2 rfl (lv_at hl 0 rfl) ?_
            refine lv_aload_n hx hb dX5_eraseRegisters_3 rfl (lv_at hl 1 rfl) ?_
            refine va_get (D := D) (ci := 4) (v := .ref q) (C := RX5) (T := TX5) (N := 6) hx hb hts i_X5 hown hK hP 0 rfl rfl 3 (by decide) (hts (Cond.fieldLink RX5 32 "BrownClock$State" "registers" "[I") (List.mem_of_getElem? (i := 1) rfl)) (fun _ h9 => h9) rfl dX5_eraseRegisters_4 ?_
            refine va_alen hx hb hK hP 1 0 rfl rfl (v := 8) rfl dX5_eraseRegisters_7 ?_
            refine lv_icmp_ge (tgt := 24) hx hb dX5_eraseRegisters_8 (by decide) (fun c_6 => ?_) (fun c_6 => ?_)
            · exact absurd c_6 (by decide)
            · skip
              refine lv_aload_n hx hb dX5_eraseRegisters_11 rfl (lv_at hl 1 rfl) ?_
              refine va_get (D := D) (ci := 4) (v := .ref q) (C := RX5) (T := TX5) (N := 6) hx hb hts i_X5 hown hK hP 0 rfl rfl 3 (by decide) (hts (Cond.fieldLink RX5 32 "BrownClock$State" "registers" "[I") (List.mem_of_getElem? (i := 1) rfl)) (fun _ h9 => h9) rfl dX5_eraseRegisters_12 ?_
              refine lv_iload_n hx hb dX5_eraseRegisters_15 rfl (lv_at hl 0 rfl) ?_
              refine lv_iconst (v := 0) hx hb dX5_eraseRegisters_16 (by decide) ?_
              refine k_iast hx hb hK hP hD hS 1 rfl 5 rfl (by decide) (Nat.le_of_ble_eq_true rfl) dX5_eraseRegisters_17 (fun H locs hP hD hS => ?_)
              have hP : va_P D vwCl (fl [[ob h 4 [.ref c1, .ref c2, .ref c3, .ref q, .ref c5, .int v]], [ia ty q 8 (upd (upd (upd (upd (upd (upd f 0 0) 1 0) 2 0) 3 0) 4 0) 5 0)]]) H := hP
              have hD : va_D A (fl [[ob h 4 [.ref c1, .ref c2, .ref c3, .ref q, .ref c5, .int v]], [ia ty q 8 (upd (upd (upd (upd (upd (upd f 0 0) 1 0) 2 0) 3 0) 4 0) 5 0)]]) := hD
              refine lv_iinc (v := 6) (lv' := [(1, .int 6), (0, .ref h)]) hx hb dX5_eraseRegisters_18 hl (k := 0) rfl (by decide) (by decide) rfl (fun ls hl => ?_)
              refine lv_goto (tgt := 2) hx hb dX5_eraseRegisters_21 (by decide) ?_
              refine lv_iload_n hx hb dX5_eraseRegisters_2 rfl (lv_at hl 0 rfl) ?_
              refine lv_aload_n hx hb dX5_eraseRegisters_3 rfl (lv_at hl 1 rfl) ?_
              refine va_get (D := D) (ci := 4) (v := .ref q) (C := RX5) (T := TX5) (N := 6) hx hb hts i_X5 hown hK hP 0 rfl rfl 3 (by decide) (hts (Cond.fieldLink RX5 32 "BrownClock$State" "registers" "[I") (List.mem_of_getElem? (i := 1) rfl)) (fun _ h9 => h9) rfl dX5_eraseRegisters_4 ?_
              refine va_alen hx hb hK hP 1 0 rfl rfl (v := 8) rfl dX5_eraseRegisters_7 ?_
              refine lv_icmp_ge (tgt := 24) hx hb dX5_eraseRegisters_8 (by decide) (fun c_7 => ?_) (fun c_7 => ?_)
              · exact absurd c_7 (by decide)
              · skip
                refine lv_aload_n hx hb dX5_eraseRegisters_11 rfl (lv_at hl 1 rfl) ?_
                refine va_get (D := D) (ci := 4) (v := .ref q) (C := RX5) (T := TX5) (N := 6) hx hb hts i_X5 hown hK hP 0 rfl rfl 3 (by decide) (hts (Cond.fieldLink RX5 32 "BrownClock$State" "registers" "[I") (List.mem_of_getElem? (i := 1) rfl)) (fun _ h9 => h9) rfl dX5_eraseRegisters_12 ?_
                refine lv_iload_n hx hb dX5_eraseRegisters_15 rfl (lv_at hl 0 rfl) ?_
                refine lv_iconst (v := 0) hx hb dX5_eraseRegisters_16 (by decide) ?_
                refine k_iast hx hb hK hP hD hS 1 rfl 6 rfl (by decide) (Nat.le_of_ble_eq_true rfl) dX5_eraseRegisters_17 (fun H locs hP hD hS => ?_)
                have hP : va_P D vwCl (fl [[ob h 4 [.ref c1, .ref c2, .ref c3, .ref q, .ref c5, .int v]], [ia ty q 8 (upd (upd (upd (upd (upd (upd (upd f 0 0) 1 0) 2 0) 3 0) 4 0) 5 0) 6 0)]]) H := hP
                have hD : va_D A (fl [[ob h 4 [.ref c1, .ref c2, .ref c3, .ref q, .ref c5, .int v]], [ia ty q 8 (upd (upd (upd (upd (upd (upd (upd f 0 0) 1 0) 2 0) 3 0) 4 0) 5 0) 6 0)]]) := hD
                refine lv_iinc (v := 7) (lv' := [(1, .int 7), (0, .ref h)]) hx hb dX5_eraseRegisters_18 hl (k := 0) rfl (by decide) (by decide) rfl (fun ls hl => ?_)
                refine lv_goto (tgt := 2) hx hb dX5_eraseRegisters_21 (by decide) ?_
                refine lv_iload_n hx hb dX5_eraseRegisters_2 rfl (lv_at hl 0 rfl) ?_
                refine lv_aload_n hx hb dX5_eraseRegisters_3 rfl (lv_at hl 1 rfl) ?_
                refine va_get (D := D) (ci := 4) (v := .ref q) (C := RX5) (T := TX5) (N := 6) hx hb hts i_X5 hown hK hP 0 rfl rfl 3 (by decide) (hts (Cond.fieldLink RX5 32 "BrownClock$State" "registers" "[I") (List.mem_of_getElem? (i := 1) rfl)) (fun _ h9 => h9) rfl dX5_eraseRegisters_4 ?_
                refine va_alen hx hb hK hP 1 0 rfl rfl (v := 8) rfl dX5_eraseRegisters_7 ?_
                refine lv_icmp_ge (tgt := 24) hx hb dX5_eraseRegisters_8 (by decide) (fun c_8 => ?_) (fun c_8 => ?_)
                · exact absurd c_8 (by decide)
                · skip
                  refine lv_aload_n hx hb dX5_eraseRegisters_11 rfl (lv_at hl 1 rfl) ?_
                  refine va_get (D := D) (ci := 4) (v := .ref q) (C := RX5) (T := TX5) (N := 6) hx hb hts i_X5 hown hK hP 0 rfl rfl 3 (by decide) (hts (Cond.fieldLink RX5 32 "BrownClock$State" "registers" "[I") (List.mem_of_getElem? (i := 1) rfl)) (fun _ h9 => h9) rfl dX5_eraseRegisters_12 ?_
                  refine lv_iload_n hx hb dX5_eraseRegisters_15 rfl (lv_at hl 0 rfl) ?_
                  refine lv_iconst (v := 0) hx hb dX5_eraseRegisters_16 (by decide) ?_
                  refine k_iast hx hb hK hP hD hS 1 rfl 7 rfl (by decide) (Nat.le_of_ble_eq_true rfl) dX5_eraseRegisters_17 (fun H locs hP hD hS => ?_)
                  have hP : va_P D vwCl (fl [[ob h 4 [.ref c1, .ref c2, .ref c3, .ref q, .ref c5, .int v]], [ia ty q 8 (upd (upd (upd (upd (upd (upd (upd (upd f 0 0) 1 0) 2 0) 3 0) 4 0) 5 0) 6 0) 7 0)]]) H := hP
                  have hD : va_D A (fl [[ob h 4 [.ref c1, .ref c2, .ref c3, .ref q, .ref c5, .int v]], [ia ty q 8 (upd (upd (upd (upd (upd (upd (upd (upd f 0 0) 1 0) 2 0) 3 0) 4 0) 5 0) 6 0) 7 0)]]) := hD
                  refine lv_iinc (v := 8) (lv' := [(1, .int 8), (0, .ref h)]) hx hb dX5_eraseRegisters_18 hl (k := 0) rfl (by decide) (by decide) rfl (fun ls hl => ?_)
                  refine lv_goto (tgt := 2) hx hb dX5_eraseRegisters_21 (by decide) ?_
                  refine lv_iload_n hx hb dX5_eraseRegisters_2 rfl (lv_at hl 0 rfl) ?_
                  refine lv_aload_n hx hb dX5_eraseRegisters_3 rfl (lv_at hl 1 rfl) ?_
                  refine va_get (D := D) (ci := 4) (v := .ref q) (C := RX5) (T := TX5) (N := 6) hx hb hts i_X5 hown hK hP 0 rfl rfl 3 (by decide) (hts (Cond.fieldLink RX5 32 "BrownClock$State" "registers" "[I") (List.mem_of_getElem? (i := 1) rfl)) (fun _ h9 => h9) rfl dX5_eraseRegisters_4 ?_
                  refine va_alen hx hb hK hP 1 0 rfl rfl (v := 8) rfl dX5_eraseRegisters_7 ?_
                  refine lv_icmp_ge (tgt := 24) hx hb dX5_eraseRegisters_8 (by decide) (fun c_9 => ?_) (fun c_9 => ?_)
                  · skip
                    have hP : va_P D vwCl (fl [[ob h 4 [.ref c1, .ref c2, .ref c3, .ref q, .ref c5, .int v]], [ia ty q 8 (fun _ => 0)]]) H := by
                      obtain ⟨z0, hP⟩ := P_cons.mp hP
                      obtain ⟨z1, hP⟩ := P_cons.mp hP
                      exact P_cons.mpr ⟨z0, P_cons.mpr ⟨at_ia (fun k hk => by match k, hk with | 0, _ => rfl | 1, _ => rfl | 2, _ => rfl | 3, _ => rfl | 4, _ => rfl | 5, _ => rfl | 6, _ => rfl | 7, _ => rfl) z1, hP⟩⟩
                    have hD : va_D A (fl [[ob h 4 [.ref c1, .ref c2, .ref c3, .ref q, .ref c5, .int v]], [ia ty q 8 (fun _ => 0)]]) := (D_same2 hD [h, q] rfl rfl)
                    exact end_v (bs' := (fun (_ : Unit) => [[ob h 4 [.ref c1, .ref c2, .ref c3, .ref q, .ref c5, .int v]], [ia ty q 8 (fun _ => 0)]])) () hx hb hr hlocks hP hD hS trivial (Nat.le_of_ble_eq_true rfl) (Nat.le_of_ble_eq_true rfl) dX5_eraseRegisters_24
                  · exact absurd (by decide) c_9
set_option maxHeartbeats 4000000 in
set_option maxRecDepth 100000 in
theorem c_X5_offset (l : Launch) (D : va_G) (ty : Nat → ClassId) (a : Nat → Nat) (r : Nat → Int32) (x y : Int64) (g : Nat → Nat → Int32) : CTi l yX5_offset wsX5_offset ({ frames := 0, cells := 0, slots := 0, locals := 0 }) D ty [.ref (a 0)] [(stW ty a r x y g)] (fun (RET : Int32) (_ : Unit) => RET = (poff r)) (fun (_ : Unit) => [(stW ty a r x y g)]) := by
  refine CTi_of cX5_offset 1 (some .int) (by decide) rfl (Nat.le_of_ble_eq_true rfl) ?_
  intro p e s m args below meth c A hx hb hr hml hown hlocks hin hts hA hX hK hP hD ls hl
  have hown : s.vm.findClass RX5 = some m.cls := hown
  have hS : va_S A s.heap s.heap [] := va_S.rf
  have i_X5 : ∀ z ∈ wsX50, z ∈ wsX5_offset := fun z h => List.mem_cons_of_mem _ (List.mem_append_left _ (List.mem_append_right _ h))
  have i_X1 : ∀ z ∈ wsX10, z ∈ wsX5_offset := fun z h => List.mem_cons_of_mem _ (List.mem_append_right _ h)
  have hl : lv_has ls 1 [(0, .ref (a 0))] := hl
  have hP : va_P D vwCl (fl [[ob (a 0) 4 [.ref (a 1), .ref (a 2), .ref (a 3), .ref (a 4), .ref (a 5), .int (r 0)]], [ob (a 1) 1 [.int (r 1), .int (r 2), .int (bz (r 5)), .int (r 3), .int (r 4), .long x, .long y]], [ob (a 2) 5 [.ref (a 6), .int (r 6), .int (r 7), .int (r 10)]], [ia ty (a 6) 4 (fun k => r (12 + k))], [ob (a 3) 6 [.ref (a 7), .ref (a 8), .ref (a 9), .ref (a 10), .int (r 11), .int (r 8)]], [za ty (a 7) 3 (fun k => bz (r (24 + k)))], [ia ty (a 8) 6 (g 0)], [ia ty (a 9) 6 (g 1)], [ia ty (a 10) 6 (g 2)], [ia ty (a 4) 8 (fun k => r (16 + k))], [aa ty (a 5) 4 (fun k => some (a (11 + k)))], [ob (a 11) 0 [.int (r 27), .int (bz (r 28)), .int (r 29)]], [ob (a 12) 0 [.int (r 30), .int (bz (r 31)), .int (r 32)]], [ob (a 13) 0 [.int (r 33), .int (bz (r 34)), .int (r 35)]], [ob (a 14) 0 [.int (r 36), .int (bz (r 37)), .int (r 38)]]]) s.heap := hP
  have hD : va_D A (fl [[ob (a 0) 4 [.ref (a 1), .ref (a 2), .ref (a 3), .ref (a 4), .ref (a 5), .int (r 0)]], [ob (a 1) 1 [.int (r 1), .int (r 2), .int (bz (r 5)), .int (r 3), .int (r 4), .long x, .long y]], [ob (a 2) 5 [.ref (a 6), .int (r 6), .int (r 7), .int (r 10)]], [ia ty (a 6) 4 (fun k => r (12 + k))], [ob (a 3) 6 [.ref (a 7), .ref (a 8), .ref (a 9), .ref (a 10), .int (r 11), .int (r 8)]], [za ty (a 7) 3 (fun k => bz (r (24 + k)))], [ia ty (a 8) 6 (g 0)], [ia ty (a 9) 6 (g 1)], [ia ty (a 10) 6 (g 2)], [ia ty (a 4) 8 (fun k => r (16 + k))], [aa ty (a 5) 4 (fun k => some (a (11 + k)))], [ob (a 11) 0 [.int (r 27), .int (bz (r 28)), .int (r 29)]], [ob (a 12) 0 [.int (r 30), .int (bz (r 31)), .int (r 32)]], [ob (a 13) 0 [.int (r 33), .int (bz (r 34)), .int (r 35)]], [ob (a 14) 0 [.int (r 36), .int (bz (r 37)), .int (r 38)]]]) := hD
  refine lv_aload_n hx hb dX5_offset_0 rfl (lv_at hl 0 rfl) ?_
  refine va_get (D := D) (ci := 4) (v := .ref (a 1)) (C := RX5) (T := TX5) (N := 6) hx hb hts i_X5 hown hK hP 0 rfl rfl 0 (by decide) (hts (Cond.fieldLink RX5 12 "BrownClock$State" "crystal" "LBrownClock$Crystal;") (List.mem_of_getElem? (i := 1) rfl)) (fun _ h9 => h9) rfl dX5_offset_1 ?_
  refine va_get (D := D) (ci := 1) (v := .int (r 1)) (C := RX1) (T := TX1) (N := 7) hx hb hts i_X1 hown hK hP 1 rfl rfl 0 (by decide) (hts (Cond.fieldLink RX5 80 "BrownClock$Crystal" "seconds" "I") (List.mem_of_getElem? (i := 2) rfl)) (fun _ h9 => h9) rfl dX5_offset_4 ?_
  refine lv_bipush (v := 60) hx hb dX5_offset_7 (by decide) ?_
  refine lv_aload_n hx hb dX5_offset_9 rfl (lv_at hl 0 rfl) ?_
  refine va_get (D := D) (ci := 4) (v := .int (r 0)) (C := RX5) (T := TX5) (N := 6) hx hb hts i_X5 hown hK hP 0 rfl rfl 5 (by decide) (hts (Cond.fieldLink RX5 46 "BrownClock$State" "minutes" "I") (List.mem_of_getElem? (i := 3) rfl)) (fun _ h9 => h9) rfl dX5_offset_10 ?_
  refine k_imul (v := (60 * (r 0))) hx hb dX5_offset_13 rfl ?_
  refine k_isub (v := ((r 1) - (60 * (r 0)))) hx hb dX5_offset_14 rfl ?_
  have hP : va_P D vwCl (fl [(stW ty a r x y g)]) s.heap := hP
  have hD : va_D A (fl [(stW ty a r x y g)]) := (D_same2 hD [(a 0), (a 1), (a 2), (a 6), (a 3), (a 7), (a 8), (a 9), (a 10), (a 4), (a 5), (a 11), (a 12), (a 13), (a 14)] rfl rfl)
  exact end_i (bs' := (fun (_ : Unit) => [(stW ty a r x y g)])) () hx hb hr hlocks hP hD hS rfl (Nat.le_of_ble_eq_true rfl) (Nat.le_of_ble_eq_true rfl) dX5_offset_15
