set_option maxHeartbeats 4000000 in
set_option maxRecDepth 100000 in
theorem c_X10_domainOf (l : Launch) (D : va_G) (ty : Nat → ClassId) (q : Nat) (r : Nat → Int32) : CTi l yX10_domainOf wsX10_domainOf ({ frames := 0, cells := 0, slots := 0, locals := 0 }) D ty [.ref q] [[ia ty q 57 r]] (fun (RET : Int32) (_ : Unit) => RET = (pdom r)) (fun (_ : Unit) => [[ia ty q 57 r]]) := by
  refine CTi_of cX10_domainOf 1 (some .int) (by decide) rfl (Nat.le_of_ble_eq_true rfl) ?_
  intro p e s m args below meth c A hx hb hr hml hown hlocks hin hts hA hX hK hP hD ls hl
  have hown : s.vm.findClass RX10 = some m.cls := hown
  have hS : va_S A s.heap s.heap [] := va_S.rf
  have hl : lv_has ls 1 [(0, .ref q)] := hl
  refine lv_aload_n hx hb dX10_domainOf_0 rfl (lv_at hl 0 rfl) ?_
  refine lv_bipush (v := 6) hx hb dX10_domainOf_1 (by decide) ?_
  refine k_iald hx hb hK hP 0 rfl 6 rfl (by decide) (Nat.le_of_ble_eq_true rfl) (v := r 6) rfl dX10_domainOf_3 ?_
  refine lv_bipush (v := 6) hx hb dX10_domainOf_4 (by decide) ?_
  refine lv_icmp_lt (tgt := 13) hx hb dX10_domainOf_6 (by decide) (fun c_1 => ?_) (fun c_1 => ?_)
  · skip
    refine lv_aload_n hx hb dX10_domainOf_13 rfl (lv_at hl 0 rfl) ?_
    refine lv_bipush (v := 7) hx hb dX10_domainOf_14 (by decide) ?_
    refine k_iald hx hb hK hP 0 rfl 7 rfl (by decide) (Nat.le_of_ble_eq_true rfl) (v := r 7) rfl dX10_domainOf_16 ?_
    refine lv_if_ne (tgt := 24) hx hb dX10_domainOf_17 (by decide) (fun c_2 => ?_) (fun c_2 => ?_)
    · skip
      refine lv_aload_n hx hb dX10_domainOf_24 rfl (lv_at hl 0 rfl) ?_
      refine lv_bipush (v := 6) hx hb dX10_domainOf_25 (by decide) ?_
      refine k_iald hx hb hK hP 0 rfl 6 rfl (by decide) (Nat.le_of_ble_eq_true rfl) (v := r 6) rfl dX10_domainOf_27 ?_
      refine lv_iconst (v := 3) hx hb dX10_domainOf_28 (by decide) ?_
      refine lv_icmp_lt (tgt := 36) hx hb dX10_domainOf_29 (by decide) (fun c_3 => ?_) (fun c_3 => ?_)
      · skip
        refine lv_iconst (v := 2) hx hb dX10_domainOf_36 (by decide) ?_
        have hP : va_P D vwCl (fl [[ia ty q 57 r]]) s.heap := hP
        have hD : va_D A (fl [[ia ty q 57 r]]) := hD
        exact end_i (bs' := (fun (_ : Unit) => [[ia ty q 57 r]])) () hx hb hr hlocks hP hD hS (by simp [pdom, domv, c_1, c_2, c_3]) (Nat.le_of_ble_eq_true rfl) (Nat.le_of_ble_eq_true rfl) dX10_domainOf_37
      · skip
        refine lv_iconst (v := 1) hx hb dX10_domainOf_32 (by decide) ?_
        refine lv_goto (tgt := 37) hx hb dX10_domainOf_33 (by decide) ?_
        have hP : va_P D vwCl (fl [[ia ty q 57 r]]) s.heap := hP
        have hD : va_D A (fl [[ia ty q 57 r]]) := hD
        exact end_i (bs' := (fun (_ : Unit) => [[ia ty q 57 r]])) () hx hb hr hlocks hP hD hS (by simp [pdom, domv, c_1, c_2, c_3]) (Nat.le_of_ble_eq_true rfl) (Nat.le_of_ble_eq_true rfl) dX10_domainOf_37
    · skip
      refine lv_iconst (v := 3) hx hb dX10_domainOf_20 (by decide) ?_
      refine lv_goto (tgt := 37) hx hb dX10_domainOf_21 (by decide) ?_
      have hP : va_P D vwCl (fl [[ia ty q 57 r]]) s.heap := hP
      have hD : va_D A (fl [[ia ty q 57 r]]) := hD
      exact end_i (bs' := (fun (_ : Unit) => [[ia ty q 57 r]])) () hx hb hr hlocks hP hD hS (by simp [pdom, domv, c_1, c_2]) (Nat.le_of_ble_eq_true rfl) (Nat.le_of_ble_eq_true rfl) dX10_domainOf_37
  · skip
    refine lv_iconst (v := 0) hx hb dX10_domainOf_9 (by decide) ?_
    refine lv_goto (tgt := 37) hx hb dX10_domainOf_10 (by decide) ?_
    have hP : va_P D vwCl (fl [[ia ty q 57 r]]) s.heap := hP
    have hD : va_D A (fl [[ia ty q 57 r]]) := hD
    exact end_i (bs' := (fun (_ : Unit) => [[ia ty q 57 r]])) () hx hb hr hlocks hP hD hS (by simp [pdom, domv, c_1]) (Nat.le_of_ble_eq_true rfl) (Nat.le_of_ble_eq_true rfl) dX10_domainOf_37
set_option maxHeartbeats 4000000 in
set_option maxRecDepth 100000 in
theorem c_X10_offsetOf (l : Launch) (D : va_G) (ty : Nat → ClassId) (q : Nat) (r : Nat → Int32) : CTi l yX10_offsetOf wsX10_offsetOf ({ frames := 0, cells := 0, slots := 0, locals := 0 }) D ty [.ref q] [[ia ty q 57 r]] (fun (RET : Int32) (_ : Unit) => RET = (poff r)) (fun (_ : Unit) => [[ia ty q 57 r]]) := by
  refine CTi_of cX10_offsetOf 1 (some .int) (by decide) rfl (Nat.le_of_ble_eq_true rfl) ?_
  intro p e s m args below meth c A hx hb hr hml hown hlocks hin hts hA hX hK hP hD ls hl
  have hown : s.vm.findClass RX10 = some m.cls := hown
  have hS : va_S A s.heap s.heap [] := va_S.rf
  have hl : lv_has ls 1 [(0, .ref q)] := hl
  refine lv_aload_n hx hb dX10_offsetOf_0 rfl (lv_at hl 0 rfl) ?_
  refine lv_iconst (v := 1) hx hb dX10_offsetOf_1 (by decide) ?_
  refine k_iald hx hb hK hP 0 rfl 1 rfl (by decide) (Nat.le_of_ble_eq_true rfl) (v := r 1) rfl dX10_offsetOf_2 ?_
  refine lv_bipush (v := 60) hx hb dX10_offsetOf_3 (by decide) ?_
  refine lv_aload_n hx hb dX10_offsetOf_5 rfl (lv_at hl 0 rfl) ?_
  refine lv_iconst (v := 0) hx hb dX10_offsetOf_6 (by decide) ?_
  refine k_iald hx hb hK hP 0 rfl 0 rfl (by decide) (Nat.le_of_ble_eq_true rfl) (v := r 0) rfl dX10_offsetOf_7 ?_
  refine k_imul (v := (60 * (r 0))) hx hb dX10_offsetOf_8 rfl ?_
  refine k_isub (v := ((r 1) - (60 * (r 0)))) hx hb dX10_offsetOf_9 rfl ?_
  have hP : va_P D vwCl (fl [[ia ty q 57 r]]) s.heap := hP
  have hD : va_D A (fl [[ia ty q 57 r]]) := hD
  exact end_i (bs' := (fun (_ : Unit) => [[ia ty q 57 r]])) () hx hb hr hlocks hP hD hS rfl (Nat.le_of_ble_eq_true rfl) (Nat.le_of_ble_eq_true rfl) dX10_offsetOf_10
set_option maxHeartbeats 4000000 in
set_option maxRecDepth 100000 in
theorem c_X10_ring (l : Launch) (D : va_G) (ty : Nat → ClassId) (q i : Nat) (r : Nat → Int32) (hi : i < 4) : CTv l yX10_ring wsX10_ring ({ frames := 0, cells := 0, slots := 0, locals := 0 }) D ty [.ref q, .int (nI i)] [[ia ty q 57 r]] (fun (_ : Unit) => True) (fun (_ : Unit) => [[ia ty q 57 (pring i r)]]) := by
  refine CTv_of cX10_ring 2 none (by decide) rfl (Nat.le_of_ble_eq_true rfl) ?_
  intro p e s m args below meth c A hx hb hr hml hown hlocks hin hts hA hX hK hP hD ls hl
  have hown : s.vm.findClass RX10 = some m.cls := hown
  have hS : va_S A s.heap s.heap [] := va_S.rf
  have hl : lv_has ls 2 [(0, .ref q), (1, .int (nI i))] := hl
  refine lv_aload_n hx hb dX10_ring_0 rfl (lv_at hl 0 rfl) ?_
  refine lv_bipush (v := 27) hx hb dX10_ring_1 (by decide) ?_
  refine lv_iconst (v := 3) hx hb dX10_ring_3 (by decide) ?_
  refine lv_iload_n hx hb dX10_ring_4 rfl (lv_at hl 1 rfl) ?_
  refine k_imul (v := (nI (3 * i))) hx hb dX10_ring_5 ((nI_mul (3) (i)).trans (congrArg nI (by omega))) ?_
  refine k_iadd (v := (nI (27 + 3 * i))) hx hb dX10_ring_6 ((nI_add (27) (3 * i)).trans (congrArg nI (by omega))) ?_
  refine lv_iconst (v := 1) hx hb dX10_ring_7 (by decide) ?_
  refine k_iadd (v := (nI (28 + 3 * i))) hx hb dX10_ring_8 ((nI_add (27 + 3 * i) (1)).trans (congrArg nI (by omega))) ?_
  refine lv_iconst (v := 0) hx hb dX10_ring_9 (by decide) ?_
  refine k_iast hx hb hK hP hD hS 0 rfl (28 + 3 * i) rfl (by omega) (Nat.le_of_ble_eq_true rfl) dX10_ring_10 (fun H locs hP hD hS => ?_)
  have hP : va_P D vwCl (fl [[ia ty q 57 (upd r (28 + 3 * i) 0)]]) H := hP
  have hD : va_D A (fl [[ia ty q 57 (upd r (28 + 3 * i) 0)]]) := hD
  refine lv_aload_n hx hb dX10_ring_11 rfl (lv_at hl 0 rfl) ?_
  refine lv_bipush (v := 27) hx hb dX10_ring_12 (by decide) ?_
  refine lv_iconst (v := 3) hx hb dX10_ring_14 (by decide) ?_
  refine lv_iload_n hx hb dX10_ring_15 rfl (lv_at hl 1 rfl) ?_
  refine k_imul (v := (nI (3 * i))) hx hb dX10_ring_16 ((nI_mul (3) (i)).trans (congrArg nI (by omega))) ?_
  refine k_iadd (v := (nI (27 + 3 * i))) hx hb dX10_ring_17 ((nI_add (27) (3 * i)).trans (congrArg nI (by omega))) ?_
  refine lv_iconst (v := 2) hx hb dX10_ring_18 (by decide) ?_
  refine k_iadd (v := (nI (29 + 3 * i))) hx hb dX10_ring_19 ((nI_add (27 + 3 * i) (2)).trans (congrArg nI (by omega))) ?_
  refine lv_dup2_11 hx hb dX10_ring_20 rfl rfl ?_
  refine k_iald hx hb hK hP 0 rfl (29 + 3 * i) rfl (by omega) (Nat.le_of_ble_eq_true rfl) (v := (upd r (28 + 3 * i) 0) (29 + 3 * i)) rfl dX10_ring_21 ?_
  refine lv_iconst (v := 1) hx hb dX10_ring_22 (by decide) ?_
  refine k_iadd (v := (((upd r (28 + 3 * i) 0) (29 + 3 * i)) + 1)) hx hb dX10_ring_23 rfl ?_
  refine k_iast hx hb hK hP hD hS 0 rfl (29 + 3 * i) rfl (by omega) (Nat.le_of_ble_eq_true rfl) dX10_ring_24 (fun H locs hP hD hS => ?_)
  have hP : va_P D vwCl (fl [[ia ty q 57 (upd (upd r (28 + 3 * i) 0) (29 + 3 * i) (((upd r (28 + 3 * i) 0) (29 + 3 * i)) + 1))]]) H := hP
  have hD : va_D A (fl [[ia ty q 57 (upd (upd r (28 + 3 * i) 0) (29 + 3 * i) (((upd r (28 + 3 * i) 0) (29 + 3 * i)) + 1))]]) := hD
  refine lv_aload_n hx hb dX10_ring_25 rfl (lv_at hl 0 rfl) ?_
  refine lv_bipush (v := 9) hx hb dX10_ring_26 (by decide) ?_
  refine lv_dup2_11 hx hb dX10_ring_28 rfl rfl ?_
  refine k_iald hx hb hK hP 0 rfl 9 rfl (by decide) (Nat.le_of_ble_eq_true rfl) (v := (upd (upd r (28 + 3 * i) 0) (29 + 3 * i) (((upd r (28 + 3 * i) 0) (29 + 3 * i)) + 1)) 9) rfl dX10_ring_29 ?_
  refine lv_iconst (v := 1) hx hb dX10_ring_30 (by decide) ?_
  refine k_iadd (v := (((upd (upd r (28 + 3 * i) 0) (29 + 3 * i) (((upd r (28 + 3 * i) 0) (29 + 3 * i)) + 1)) 9) + 1)) hx hb dX10_ring_31 rfl ?_
  refine k_iast hx hb hK hP hD hS 0 rfl 9 rfl (by decide) (Nat.le_of_ble_eq_true rfl) dX10_ring_32 (fun H locs hP hD hS => ?_)
  have hP : va_P D vwCl (fl [[ia ty q 57 (upd (upd (upd r (28 + 3 * i) 0) (29 + 3 * i) (((upd r (28 + 3 * i) 0) (29 + 3 * i)) + 1)) 9 (((upd (upd r (28 + 3 * i) 0) (29 + 3 * i) (((upd r (28 + 3 * i) 0) (29 + 3 * i)) + 1)) 9) + 1))]]) H := hP
  have hD : va_D A (fl [[ia ty q 57 (upd (upd (upd r (28 + 3 * i) 0) (29 + 3 * i) (((upd r (28 + 3 * i) 0) (29 + 3 * i)) + 1)) 9 (((upd (upd r (28 + 3 * i) 0) (29 + 3 * i) (((upd r (28 + 3 * i) 0) (29 + 3 * i)) + 1)) 9) + 1))]]) := hD
  have hP : va_P D vwCl (fl [[ia ty q 57 (pring i r)]]) H := P_at 0 (at_ia (fun k _ => by simp only [pring, upd]; rw [if_neg (show ¬ 29 + 3 * i = 28 + 3 * i by omega), if_neg (show ¬ 9 = 29 + 3 * i by omega), if_neg (show ¬ 9 = 28 + 3 * i by omega)])) rfl rfl hP
  have hD : va_D A (fl [[ia ty q 57 (pring i r)]]) := (D_same2 hD [q] rfl rfl)
  exact end_v (bs' := (fun (_ : Unit) => [[ia ty q 57 (pring i r)]])) () hx hb hr hlocks hP hD hS trivial (Nat.le_of_ble_eq_true rfl) (Nat.le_of_ble_eq_true rfl) dX10_ring_33
set_option maxHeartbeats 4000000 in
set_option maxRecDepth 100000 in
theorem c_X10_lose (l : Launch) (D : va_G) (ty : Nat → ClassId) (q : Nat) (r : Nat → Int32) : CTv l yX10_lose wsX10_lose ({ frames := 0, cells := 0, slots := 0, locals := 0 }) D ty [.ref q] [[ia ty q 57 r]] (fun (_ : Unit) => True) (fun (_ : Unit) => [[ia ty q 57 (plose r)]]) := by
  refine CTv_of cX10_lose 2 none (by decide) rfl (Nat.le_of_ble_eq_true rfl) ?_
  intro p e s m args below meth c A hx hb hr hml hown hlocks hin hts hA hX hK hP hD ls hl
  have hown : s.vm.findClass RX10 = some m.cls := hown
  have hS : va_S A s.heap s.heap [] := va_S.rf
  have hl : lv_has ls 2 [(0, .ref q)] := hl
  refine lv_aload_n hx hb dX10_lose_0 rfl (lv_at hl 0 rfl) ?_
  refine lv_iconst (v := 1) hx hb dX10_lose_1 (by decide) ?_
  refine lv_iconst (v := 0) hx hb dX10_lose_2 (by decide) ?_
  refine k_iast hx hb hK hP hD hS 0 rfl 1 rfl (by decide) (Nat.le_of_ble_eq_true rfl) dX10_lose_3 (fun H locs hP hD hS => ?_)
  have hP : va_P D vwCl (fl [[ia ty q 57 (upd r 1 0)]]) H := hP
  have hD : va_D A (fl [[ia ty q 57 (upd r 1 0)]]) := hD
  refine lv_aload_n hx hb dX10_lose_4 rfl (lv_at hl 0 rfl) ?_
  refine lv_iconst (v := 2) hx hb dX10_lose_5 (by decide) ?_
  refine lv_iconst (v := 0) hx hb dX10_lose_6 (by decide) ?_
  refine k_iast hx hb hK hP hD hS 0 rfl 2 rfl (by decide) (Nat.le_of_ble_eq_true rfl) dX10_lose_7 (fun H locs hP hD hS => ?_)
  have hP : va_P D vwCl (fl [[ia ty q 57 (upd (upd r 1 0) 2 0)]]) H := hP
  have hD : va_D A (fl [[ia ty q 57 (upd (upd r 1 0) 2 0)]]) := hD
  refine lv_aload_n hx hb dX10_lose_8 rfl (lv_at hl 0 rfl) ?_
  refine lv_iconst (v := 5) hx hb dX10_lose_9 (by decide) ?_
  refine lv_iconst (v := 0) hx hb dX10_lose_10 (by decide) ?_
  refine k_iast hx hb hK hP hD hS 0 rfl 5 rfl (by decide) (Nat.le_of_ble_eq_true rfl) dX10_lose_11 (fun H locs hP hD hS => ?_)
  have hP : va_P D vwCl (fl [[ia ty q 57 (upd (upd (upd r 1 0) 2 0) 5 0)]]) H := hP
  have hD : va_D A (fl [[ia ty q 57 (upd (upd (upd r 1 0) 2 0) 5 0)]]) := hD
  refine lv_aload_n hx hb dX10_lose_12 rfl (lv_at hl 0 rfl) ?_
  refine lv_bipush (v := 11) hx hb dX10_lose_13 (by decide) ?_
  refine lv_iconst (v := 0) hx hb dX10_lose_15 (by decide) ?_
  refine k_iast hx hb hK hP hD hS 0 rfl 11 rfl (by decide) (Nat.le_of_ble_eq_true rfl) dX10_lose_16 (fun H locs hP hD hS => ?_)
  have hP : va_P D vwCl (fl [[ia ty q 57 (upd (upd (upd (upd r 1 0) 2 0) 5 0) 11 0)]]) H := hP
  have hD : va_D A (fl [[ia ty q 57 (upd (upd (upd (upd r 1 0) 2 0) 5 0) 11 0)]]) := hD
  refine lv_aload_n hx hb dX10_lose_17 rfl (lv_at hl 0 rfl) ?_
  refine lv_bipush (v := 10) hx hb dX10_lose_18 (by decide) ?_
  refine lv_dup2_11 hx hb dX10_lose_20 rfl rfl ?_
  refine k_iald hx hb hK hP 0 rfl 10 rfl (by decide) (Nat.le_of_ble_eq_true rfl) (v := r 10) rfl dX10_lose_21 ?_
  refine lv_iconst (v := 1) hx hb dX10_lose_22 (by decide) ?_
  refine k_iadd (v := ((r 10) + 1)) hx hb dX10_lose_23 rfl ?_
  refine k_iast hx hb hK hP hD hS 0 rfl 10 rfl (by decide) (Nat.le_of_ble_eq_true rfl) dX10_lose_24 (fun H locs hP hD hS => ?_)
  have hP : va_P D vwCl (fl [[ia ty q 57 (upd (upd (upd (upd (upd r 1 0) 2 0) 5 0) 11 0) 10 ((r 10) + 1))]]) H := hP
  have hD : va_D A (fl [[ia ty q 57 (upd (upd (upd (upd (upd r 1 0) 2 0) 5 0) 11 0) 10 ((r 10) + 1))]]) := hD
  refine lv_iconst (v := 0) hx hb dX10_lose_25 (by decide) ?_
  refine lv_istore_n (lv' := [(1, .int 0), (0, .ref q)]) hx hb dX10_lose_26 rfl hl (by decide) rfl (fun ls hl => ?_)
  refine lv_iload_n hx hb dX10_lose_27 rfl (lv_at hl 0 rfl) ?_
  refine lv_bipush (v := 8) hx hb dX10_lose_28 (by decide) ?_
  refine lv_icmp_ge (tgt := 46) hx hb dX10_lose_30 (by decide) (fun c_1 => ?_) (fun c_1 => ?_)
  · exact absurd c_1 (by decide)
  · skip
    refine lv_aload_n hx hb dX10_lose_33 rfl (lv_at hl 1 rfl) ?_
    refine lv_bipush (v := 16) hx hb dX10_lose_34 (by decide) ?_
    refine lv_iload_n hx hb dX10_lose_36 rfl (lv_at hl 0 rfl) ?_
    refine k_iadd (v := 16) hx hb dX10_lose_37 (by decide) ?_
    refine lv_iconst (v := 0) hx hb dX10_lose_38 (by decide) ?_
    refine k_iast hx hb hK hP hD hS 0 rfl 16 rfl (by decide) (Nat.le_of_ble_eq_true rfl) dX10_lose_39 (fun H locs hP hD hS => ?_)
    have hP : va_P D vwCl (fl [[ia ty q 57 (upd (upd (upd (upd (upd (upd r 1 0) 2 0) 5 0) 11 0) 10 ((r 10) + 1)) 16 0)]]) H := hP
    have hD : va_D A (fl [[ia ty q 57 (upd (upd (upd (upd (upd (upd r 1 0) 2 0) 5 0) 11 0) 10 ((r 10) + 1)) 16 0)]]) := hD
    refine lv_iinc (v := 1) (lv' := [(1, .int 1), (0, .ref q)]) hx hb dX10_lose_40 hl (k := 0) rfl (by decide) (by decide) rfl (fun ls hl => ?_)
    refine lv_goto (tgt := 27) hx hb dX10_lose_43 (by decide) ?_
    refine lv_iload_n hx hb dX10_lose_27 rfl (lv_at hl 0 rfl) ?_
    refine lv_bipush (v := 8) hx hb dX10_lose_28 (by decide) ?_
    refine lv_icmp_ge (tgt := 46) hx hb dX10_lose_30 (by decide) (fun c_2 => ?_) (fun c_2 => ?_)
    · exact absurd c_2 (by decide)
    · skip
      refine lv_aload_n hx hb dX10_lose_33 rfl (lv_at hl 1 rfl) ?_
      refine lv_bipush (v := 16) hx hb dX10_lose_34 (by decide) ?_
      refine lv_iload_n hx hb dX10_lose_36 rfl (lv_at hl 0 rfl) ?_
      refine k_iadd (v := 17) hx hb dX10_lose_37 (by decide) ?_
      refine lv_iconst (v := 0) hx hb dX10_lose_38 (by decide) ?_
      refine k_iast hx hb hK hP hD hS 0 rfl 17 rfl (by decide) (Nat.le_of_ble_eq_true rfl) dX10_lose_39 (fun H locs hP hD hS => ?_)
      have hP : va_P D vwCl (fl [[ia ty q 57 (upd (upd (upd (upd (upd (upd (upd r 1 0) 2 0) 5 0) 11 0) 10 ((r 10) + 1)) 16 0) 17 0)]]) H := hP
      have hD : va_D A (fl [[ia ty q 57 (upd (upd (upd (upd (upd (upd (upd r 1 0) 2 0) 5 0) 11 0) 10 ((r 10) + 1)) 16 0) 17 0)]]) := hD
      refine lv_iinc (v := 2) (lv' := [(1, .int 2), (0, .ref q)]) hx hb dX10_lose_40 hl (k := 0) rfl (by decide) (by decide) rfl (fun ls hl => ?_)
      refine lv_goto (tgt := 27) hx hb dX10_lose_43 (by decide) ?_
      refine lv_iload_n hx hb dX10_lose_27 rfl (lv_at hl 0 rfl) ?_
      refine lv_bipush (v := 8) hx hb dX10_lose_28 (by decide) ?_
      refine lv_icmp_ge (tgt := 46) hx hb dX10_lose_30 (by decide) (fun c_3 => ?_) (fun c_3 => ?_)
      · exact absurd c_3 (by decide)
      · skip
        refine lv_aload_n hx hb dX10_lose_33 rfl (lv_at hl 1 rfl) ?_
        refine lv_bipush (v := 16) hx hb dX10_lose_34 (by decide) ?_
        refine lv_iload_n hx hb dX10_lose_36 rfl (lv_at hl 0 rfl) ?_
        refine k_iadd (v := 18) hx hb dX10_lose_37 (by decide) ?_
        refine lv_iconst (v := 0) hx hb dX10_lose_38 (by decide) ?_
        refine k_iast hx hb hK hP hD hS 0 rfl 18 rfl (by decide) (Nat.le_of_ble_eq_true rfl) dX10_lose_39 (fun H locs hP hD hS => ?_)
        have hP : va_P D vwCl (fl [[ia ty q 57 (upd (upd (upd (upd (upd (upd (upd (upd r 1 0) 2 0) 5 0) 11 0) 10 ((r 10) + 1)) 16 0) 17 0) 18 0)]]) H := hP
        have hD : va_D A (fl [[ia ty q 57 (upd (upd (upd (upd (upd (upd (upd (upd r 1 0) 2 0) 5 0) 11 0) 10 ((r 10) + 1)) 16 0) 17 0) 18 0)]]) := hD
        refine lv_iinc (v := 3) (lv' := [(1, .int 3), (0, .ref q)]) hx hb dX10_lose_40 hl (k := 0) rfl (by decide) (by decide) rfl (fun ls hl => ?_)
        refine lv_goto (tgt := 27) hx hb dX10_lose_43 (by decide) ?_
        refine lv_iload_n hx hb dX10_lose_27 rfl (lv_at hl 0 rfl) ?_
        refine lv_bipush (v := 8) hx hb dX10_lose_28 (by decide) ?_
        refine lv_icmp_ge (tgt := 46) hx hb dX10_lose_30 (by decide) (fun c_4 => ?_) (fun c_4 => ?_)
        · exact absurd c_4 (by decide)
        · skip
          refine lv_aload_n hx hb dX10_lose_33 rfl (lv_at hl 1 rfl) ?_
          refine lv_bipush (v := 16) hx hb dX10_lose_34 (by decide) ?_
          refine lv_iload_n hx hb dX10_lose_36 rfl (lv_at hl 0 rfl) ?_
          refine k_iadd (v := 19) hx hb dX10_lose_37 (by decide) ?_
          refine lv_iconst (v := 0) hx hb dX10_lose_38 (by decide) ?_
          refine k_iast hx hb hK hP hD hS 0 rfl 19 rfl (by decide) (Nat.le_of_ble_eq_true rfl) dX10_lose_39 (fun H locs hP hD hS => ?_)
          have hP : va_P D vwCl (fl [[ia ty q 57 (upd (upd (upd (upd (upd (upd (upd (upd (upd r 1 0) 2 0) 5 0) 11 0) 10 ((r 10) + 1)) 16 0) 17 0) 18 0) 19 0)]]) H := hP
          have hD : va_D A (fl [[ia ty q 57 (upd (upd (upd (upd (upd (upd (upd (upd (upd r 1 0) 2 0) 5 0) 11 0) 10 ((r 10) + 1)) 16 0) 17 0) 18 0) 19 0)]]) := hD
          refine lv_iinc (v := 4) (lv' := [(1, .int 4), (0, .ref q)]) hx hb dX10_lose_40 hl (k := 0) rfl (by decide) (by decide) rfl (fun ls hl => ?_)
          refine lv_goto (tgt := 27) hx hb dX10_lose_43 (by decide) ?_
          refine lv_iload_n hx hb dX10_lose_27 rfl (lv_at hl 0 rfl) ?_
          refine lv_bipush (v := 8) hx hb dX10_lose_28 (by decide) ?_
          refine lv_icmp_ge (tgt := 46) hx hb dX10_lose_30 (by decide) (fun c_5 => ?_) (fun c_5 => ?_)
          · exact absurd c_5 (by decide)
          · skip
            refine lv_aload_n hx hb dX10_lose_33 rfl (lv_at hl 1 rfl) ?_
            refine lv_bipush (v := 16) hx hb dX10_lose_34 (by decide) ?_
            refine lv_iload_n hx hb dX10_lose_36 rfl (lv_at hl 0 rfl) ?_
            refine k_iadd (v := 20) hx hb dX10_lose_37 (by decide) ?_
            refine lv_iconst (v := 0) hx hb dX10_lose_38 (by decide) ?_
            refine k_iast hx hb hK hP hD hS 0 rfl 20 rfl (by decide) (Nat.le_of_ble_eq_true rfl) dX10_lose_39 (fun H locs hP hD hS => ?_)
            have hP : va_P D vwCl (fl [[ia ty q 57 (upd (upd (upd (upd (upd (upd (upd (upd (upd (upd r 1 0) 2 0) 5 0) 11 0) 10 ((r 10) + 1)) 16 0) 17 0) 18 0) 19 0) 20 0)]]) H := hP
            have hD : va_D A (fl [[ia ty q 57 (upd (upd (upd (upd (upd (upd (upd (upd (upd (upd r 1 0) 2 0) 5 0) 11 0) 10 ((r 10) + 1)) 16 0) 17 0) 18 0) 19 0) 20 0)]]) := hD
            refine lv_iinc (v := 5) (lv' := [(1, .int 5), (0, .ref q)]) hx hb dX10_lose_40 hl (k := 0) rfl (by decide) (by decide) rfl (fun ls hl => ?_)
            refine lv_goto (tgt := 27) hx hb dX10_lose_43 (by decide) ?_
            refine lv_iload_n hx hb dX10_lose_27 rfl (lv_at hl 0 rfl) ?_
            refine lv_bipush (v := 8) hx hb dX10_lose_28 (by decide) ?_
            refine lv_icmp_ge (tgt := 46) hx hb dX10_lose_30 (by decide) (fun c_6 => ?_) (fun c_6 => ?_)
            · exact absurd c_6 (by decide)
            · skip
              refine lv_aload_n hx hb dX10_lose_33 rfl (lv_at hl 1 rfl) ?_
              refine lv_bipush (v := 16) hx hb dX10_lose_34 (by decide) ?_
              refine lv_iload_n hx hb dX10_lose_36 rfl (lv_at hl 0 rfl) ?_
              refine k_iadd (v := 21) hx hb dX10_lose_37 (by decide) ?_
              refine lv_iconst (v := 0) hx hb dX10_lose_38 (by decide) ?_
              refine k_iast hx hb hK hP hD hS 0 rfl 21 rfl (by decide) (Nat.le_of_ble_eq_true rfl) dX10_lose_39 (fun H locs hP hD hS => ?_)
              have hP : va_P D vwCl (fl [[ia ty q 57 (upd (upd (upd (upd (upd (upd (upd (upd (upd (upd (upd r 1 0) 2 0) 5 0) 11 0) 10 ((r 10) + 1)) 16 0) 17 0) 18 0) 19 0) 20 0) 21 0)]]) H := hP
              have hD : va_D A (fl [[ia ty q 57 (upd (upd (upd (upd (upd (upd (upd (upd (upd (upd (upd r 1 0) 2 0) 5 0) 11 0) 10 ((r 10) + 1)) 16 0) 17 0) 18 0) 19 0) 20 0) 21 0)]]) := hD
              refine lv_iinc (v := 6) (lv' := [(1, .int 6), (0, .ref q)]) hx hb dX10_lose_40 hl (k := 0) rfl (by decide) (by decide) rfl (fun ls hl => ?_)
              refine lv_goto (tgt := 27) hx hb dX10_lose_43 (by decide) ?_
              refine lv_iload_n hx hb dX10_lose_27 rfl (lv_at hl 0 rfl) ?_
              refine lv_bipush (v := 8) hx hb dX10_lose_28 (by decide) ?_
              refine lv_icmp_ge (tgt := 46) hx hb dX10_lose_30 (by decide) (fun c_7 => ?_) (fun c_7 => ?_)
              · exact absurd c_7 (by decide)
              · skip
                refine lv_aload_n hx hb dX10_lose_33 rfl (lv_at hl 1 rfl) ?_
                refine lv_bipush (v := 16) hx hb dX10_lose_34 (by decide) ?_
                refine lv_iload_n hx hb dX10_lose_36 rfl (lv_at hl 0 rfl) ?_
                refine k_iadd (v := 22) hx hb dX10_lose_37 (by decide) ?_
                refine lv_iconst (v := 0) hx hb dX10_lose_38 (by decide) ?_
                refine k_iast hx hb hK hP hD hS 0 rfl 22 rfl (by decide) (Nat.le_of_ble_eq_true rfl) dX10_lose_39 (fun H locs hP hD hS => ?_)
                have hP : va_P D vwCl (fl [[ia ty q 57 (upd (upd (upd (upd (upd (upd (upd (upd (upd (upd (upd (upd r 1 0) 2 0) 5 0) 11 0) 10 ((r 10) + 1)) 16 0) 17 0) 18 0) 19 0) 20 0) 21 0) 22 0)]]) H := hP
                have hD : va_D A (fl [[ia ty q 57 (upd (upd (upd (upd (upd (upd (upd (upd (upd (upd (upd (upd r 1 0) 2 0) 5 0) 11 0) 10 ((r 10) + 1)) 16 0) 17 0) 18 0) 19 0) 20 0) 21 0) 22 0)]]) := hD
                refine lv_iinc (v := 7) (lv' := [(1, .int 7), (0, .ref q)]) hx hb dX10_lose_40 hl (k := 0) rfl (by decide) (by decide) rfl (fun ls hl => ?_)
                refine lv_goto (tgt := 27) hx hb dX10_lose_43 (by decide) ?_
                refine lv_iload_n hx hb dX10_lose_27 rfl (lv_at hl 0 rfl) ?_
                refine lv_bipush (v := 8) hx hb dX10_lose_28 (by decide) ?_
                refine lv_icmp_ge (tgt := 46) hx hb dX10_lose_30 (by decide) (fun c_8 => ?_) (fun c_8 => ?_)
                · exact absurd c_8 (by decide)
                · skip
                  refine lv_aload_n hx hb dX10_lose_33 rfl (lv_at hl 1 rfl) ?_
                  refine lv_bipush (v := 16) hx hb dX10_lose_34 (by decide) ?_
                  refine lv_iload_n hx hb dX10_lose_36 rfl (lv_at hl 0 rfl) ?_
                  refine k_iadd (v := 23) hx hb dX10_lose_37 (by decide) ?_
                  refine lv_iconst (v := 0) hx hb dX10_lose_38 (by decide) ?_
                  refine k_iast hx hb hK hP hD hS 0 rfl 23 rfl (by decide) (Nat.le_of_ble_eq_true rfl) dX10_lose_39 (fun H locs hP hD hS => ?_)
                  have hP : va_P D vwCl (fl [[ia ty q 57 (upd (upd (upd (upd (upd (upd (upd (upd (upd (upd (upd (upd (upd r 1 0) 2 0) 5 0) 11 0) 10 ((r 10) + 1)) 16 0) 17 0) 18 0) 19 0) 20 0) 21 0) 22 0) 23 0)]]) H := hP
                  have hD : va_D A (fl [[ia ty q 57 (upd (upd (upd (upd (upd (upd (upd (upd (upd (upd (upd (upd (upd r 1 0) 2 0) 5 0) 11 0) 10 ((r 10) + 1)) 16 0) 17 0) 18 0) 19 0) 20 0) 21 0) 22 0) 23 0)]]) := hD
                  refine lv_iinc (v := 8) (lv' := [(1, .int 8), (0, .ref q)]) hx hb dX10_lose_40 hl (k := 0) rfl (by decide) (by decide) rfl (fun ls hl => ?_)
                  refine lv_goto (tgt := 27) hx hb dX10_lose_43 (by decide) ?_
                  refine lv_iload_n hx hb dX10_lose_27 rfl (lv_at hl 0 rfl) ?_
                  refine lv_bipush (v := 8) hx hb dX10_lose_28 (by decide) ?_
                  refine lv_icmp_ge (tgt := 46) hx hb dX10_lose_30 (by decide) (fun c_9 => ?_) (fun c_9 => ?_)
                  · skip
                    refine lv_iconst (v := 0) hx hb dX10_lose_46 (by decide) ?_
                    refine lv_istore_n (lv' := [(1, .int 0), (0, .ref q)]) hx hb dX10_lose_47 rfl hl (by decide) rfl (fun ls hl => ?_)
                    refine lv_iload_n hx hb dX10_lose_48 rfl (lv_at hl 0 rfl) ?_
                    refine lv_iconst (v := 4) hx hb dX10_lose_49 (by decide) ?_
                    refine lv_icmp_ge (tgt := 70) hx hb dX10_lose_50 (by decide) (fun c_10 => ?_) (fun c_10 => ?_)
                    · exact absurd c_10 (by decide)
                    · skip
                      refine lv_aload_n hx hb dX10_lose_53 rfl (lv_at hl 1 rfl) ?_
                      refine lv_bipush (v := 27) hx hb dX10_lose_54 (by decide) ?_
                      refine lv_iconst (v := 3) hx hb dX10_lose_56 (by decide) ?_
                      refine lv_iload_n hx hb dX10_lose_57 rfl (lv_at hl 0 rfl) ?_
                      refine k_imul (v := 0) hx hb dX10_lose_58 (by decide) ?_
                      refine k_iadd (v := 27) hx hb dX10_lose_59 (by decide) ?_
                      refine lv_iconst (v := 1) hx hb dX10_lose_60 (by decide) ?_
                      refine k_iadd (v := 28) hx hb dX10_lose_61 (by decide) ?_
                      refine lv_iconst (v := 0) hx hb dX10_lose_62 (by decide) ?_
                      refine k_iast hx hb hK hP hD hS 0 rfl 28 rfl (by decide) (Nat.le_of_ble_eq_true rfl) dX10_lose_63 (fun H locs hP hD hS => ?_)
                      have hP : va_P D vwCl (fl [[ia ty q 57 (upd (upd (upd (upd (upd (upd (upd (upd (upd (upd (upd (upd (upd (upd r 1 0) 2 0) 5 0) 11 0) 10 ((r 10) + 1)) 16 0) 17 0) 18 0) 19 0) 20 0) 21 0) 22 0) 23 0) 28 0)]]) H := hP
                      have hD : va_D A (fl [[ia ty q 57 (upd (upd (upd (upd (upd (upd (upd (upd (upd (upd (upd (upd (upd (upd r 1 0) 2 0) 5 0) 11 0) 10 ((r 10) + 1)) 16 0) 17 0) 18 0) 19 0) 20 0) 21 0) 22 0) 23 0) 28 0)]]) := hD
                      refine lv_iinc (v := 1) (lv' := [(1, .int 1), (0, .ref q)]) hx hb dX10_lose_64 hl (k := 0) rfl (by decide) (by decide) rfl (fun ls hl => ?_)
                      refine lv_goto (tgt := 48) hx hb dX10_lose_67 (by decide) ?_
                      refine lv_iload_n hx hb dX10_lose_48 rfl (lv_at hl 0 rfl) ?_
                      refine lv_iconst (v := 4) hx hb dX10_lose_49 (by decide) ?_
                      refine lv_icmp_ge (tgt := 70) hx hb dX10_lose_50 (by decide) (fun c_11 => ?_) (fun c_11 => ?_)
                      · exact absurd c_11 (by decide)
                      · skip
                        refine lv_aload_n hx hb dX10_lose_53 rfl (lv_at hl 1 rfl) ?_
                        refine lv_bipush (v := 27) hx hb dX10_lose_54 (by decide) ?_
                        refine lv_iconst (v := 3) hx hb dX10_lose_56 (by decide) ?_
                        refine lv_iload_n hx hb dX10_lose_57 rfl (lv_at hl 0 rfl) ?_
                        refine k_imul (v := 3) hx hb dX10_lose_58 (by decide) ?_
                        refine k_iadd (v := 30) hx hb dX10_lose_59 (by decide) ?_
                        refine lv_iconst (v := 1) hx hb dX10_lose_60 (by decide) ?_
                        refine k_iadd (v := 31) hx hb dX10_lose_61 (by decide) ?_
                        refine lv_iconst (v := 0) hx hb dX10_lose_62 (by decide) ?_
                        refine k_iast hx hb hK hP hD hS 0 rfl 31 rfl (by decide) (Nat.le_of_ble_eq_true rfl) dX10_lose_63 (fun H locs hP hD hS => ?_)
                        have hP : va_P D vwCl (fl [[ia ty q 57 (upd (upd (upd (upd (upd (upd (upd (upd (upd (upd (upd (upd (upd (upd (upd r 1 0) 2 0) 5 0) 11 0) 10 ((r 10) + 1)) 16 0) 17 0) 18 0) 19 0) 20 0) 21 0) 22 0) 23 0) 28 0) 31 0)]]) H := hP
                        have hD : va_D A (fl [[ia ty q 57 (upd (upd (upd (upd (upd (upd (upd (upd (upd (upd (upd (upd (upd (upd (upd r 1 0) 2 0) 5 0) 11 0) 10 ((r 10) + 1)) 16 0) 17 0) 18 0) 19 0) 20 0) 21 0) 22 0) 23 0) 28 0) 31 0)]]) := hD
                        refine lv_iinc (v := 2) (lv' := [(1, .int 2), (0, .ref q)]) hx hb dX10_lose_64 hl (k := 0) rfl (by decide) (by decide) rfl (fun ls hl => ?_)
                        refine lv_goto (tgt := 48) hx hb dX10_lose_67 (by decide) ?_
                        refine lv_iload_n hx hb dX10_lose_48 rfl (lv_at hl 0 rfl) ?_
                        refine lv_iconst (v := 4) hx hb dX10_lose_49 (by decide) ?_
                        refine lv_icmp_ge (tgt := 70) hx hb dX10_lose_50 (by decide) (fun c_12 => ?_) (fun c_12 => ?_)
                        · exact absurd c_12 (by decide)
                        · skip
                          refine lv_aload_n hx hb dX10_lose_53 rfl (lv_at hl 1 rfl) ?_
                          refine lv_bipush (v := 27) hx hb dX10_lose_54 (by decide) ?_
                          refine lv_iconst (v := 3) hx hb dX10_lose_56 (by decide) ?_
                          refine lv_iload_n hx hb dX10_lose_57 rfl (lv_at hl 0 rfl) ?_
                          refine k_imul (v := 6) hx hb dX10_lose_58 (by decide) ?_
                          refine k_iadd (v := 33) hx hb dX10_lose_59 (by decide) ?_
                          refine lv_iconst (v := 1) hx hb dX10_lose_60 (by decide) ?_
                          refine k_iadd (v := 34) hx hb dX10_lose_61 (by decide) ?_
                          refine lv_iconst (v := 0) hx hb dX10_lose_62 (by decide) ?_
                          refine k_iast hx hb hK hP hD hS 0 rfl 34 rfl (by decide) (Nat.le_of_ble_eq_true rfl) dX10_lose_63 (fun H locs hP hD hS => ?_)
                          have hP : va_P D vwCl (fl [[ia ty q 57 (upd (upd (upd (upd (upd (upd (upd (upd (upd (upd (upd (upd (upd (upd (upd (upd r 1 0) 2 0) 5 0) 11 0) 10 ((r 10) + 1)) 16 0) 17 0) 18 0) 19 0) 20 0) 21 0) 22 0) 23 0) 28 0) 31 0) 34 0)]]) H := hP
                          have hD : va_D A (fl [[ia ty q 57 (upd (upd (upd (upd (upd (upd (upd (upd (upd (upd (upd (upd (upd (upd (upd (upd r 1 0) 2 0) 5 0) 11 0) 10 ((r 10) + 1)) 16 0) 17 0) 18 0) 19 0) 20 0) 21 0) 22 0) 23 0) 28 0) 31 0) 34 0)]]) := hD
                          refine lv_iinc (v := 3) (lv' := [(1, .int 3), (0, .ref q)]) hx hb dX10_lose_64 hl (k := 0) rfl (by decide) (by decide) rfl (fun ls hl => ?_)
                          refine lv_goto (tgt := 48) hx hb dX10_lose_67 (by decide) ?_
                          refine lv_iload_n hx hb dX10_lose_48 rfl (lv_at hl 0 rfl) ?_
                          refine lv_iconst (v := 4) hx hb dX10_lose_49 (by decide) ?_
                          refine lv_icmp_ge (tgt := 70) hx hb dX10_lose_50 (by decide) (fun c_13 => ?_) (fun c_13 => ?_)
                          · exact absurd c_13 (by decide)
                          · skip
                            refine lv_aload_n hx hb dX10_lose_53 rfl (lv_at hl 1 rfl) ?_
                            refine lv_bipush (v := 27) hx hb dX10_lose_54 (by decide) ?_
                            refine lv_iconst (v := 3) hx hb dX10_lose_56 (by decide) ?_
                            refine lv_iload_n hx hb dX10_lose_57 rfl (lv_at hl 0 rfl) ?_
                            refine k_imul (v := 9) hx hb dX10_lose_58 (by decide) ?_
                            refine k_iadd (v := 36) hx hb dX10_lose_59 (by decide) ?_
                            refine lv_iconst (v := 1) hx hb dX10_lose_60 (by decide) ?_
                            refine k_iadd (v := 37) hx hb dX10_lose_61 (by decide) ?_
                            refine lv_iconst (v := 0) hx hb dX10_lose_62 (by decide) ?_
                            refine k_iast hx hb hK hP hD hS 0 rfl 37 rfl (by decide) (Nat.le_of_ble_eq_true rfl) dX10_lose_63 (fun H locs hP hD hS => ?_)
                            have hP : va_P D vwCl (fl [[ia ty q 57 (upd (upd (upd (upd (upd (upd (upd (upd (upd (upd (upd (upd (upd (upd (upd (upd (upd r 1 0) 2 0) 5 0) 11 0) 10 ((r 10) + 1)) 16 0) 17 0) 18 0) 19 0) 20 0) 21 0) 22 0) 23 0) 28 0) 31 0) 34 0) 37 0)]]) H := hP
                            have hD : va_D A (fl [[ia ty q 57 (upd (upd (upd (upd (upd (upd (upd (upd (upd (upd (upd (upd (upd (upd (upd (upd (upd r 1 0) 2 0) 5 0) 11 0) 10 ((r 10) + 1)) 16 0) 17 0) 18 0) 19 0) 20 0) 21 0) 22 0) 23 0) 28 0) 31 0) 34 0) 37 0)]]) := hD
                            refine lv_iinc (v := 4) (lv' := [(1, .int 4), (0, .ref q)]) hx hb dX10_lose_64 hl (k := 0) rfl (by decide) (by decide) rfl (fun ls hl => ?_)
                            refine lv_goto (tgt := 48) hx hb dX10_lose_67 (by decide) ?_
                            refine lv_iload_n hx hb dX10_lose_48 rfl (lv_at hl 0 rfl) ?_
                            refine lv_iconst (v := 4) hx hb dX10_lose_49 (by decide) ?_
                            refine lv_icmp_ge (tgt := 70) hx hb dX10_lose_50 (by decide) (fun c_14 => ?_) (fun c_14 => ?_)
                            · skip
                              have hP : va_P D vwCl (fl [[ia ty q 57 (plose r)]]) H := P_at 0 (at_ia (fun k _ => by
                                by_cases h1 : k = 1
                                · subst h1; rfl
                                by_cases h2 : k = 2
                                · subst h2; rfl
                                by_cases h5 : k = 5
                                · subst h5; rfl
                                by_cases h11 : k = 11
                                · subst h11; rfl
                                by_cases h10 : k = 10
                                · subst h10; rfl
                                by_cases h16 : k = 16
                                · subst h16; rfl
                                by_cases h17 : k = 17
                                · subst h17; rfl
                                by_cases h18 : k = 18
                                · subst h18; rfl
                                by_cases h19 : k = 19
                                · subst h19; rfl
                                by_cases h20 : k = 20
                                · subst h20; rfl
                                by_cases h21 : k = 21
                                · subst h21; rfl
                                by_cases h22 : k = 22
                                · subst h22; rfl
                                by_cases h23 : k = 23
                                · subst h23; rfl
                                by_cases h28 : k = 28
                                · subst h28; rfl
                                by_cases h31 : k = 31
                                · subst h31; rfl
                                by_cases h34 : k = 34
                                · subst h34; rfl
                                by_cases h37 : k = 37
                                · subst h37; rfl
                                have hn : ¬ (16 ≤ k ∧ k < 24) := by omega
                                simp [hn, upd, plose, perase, h1, h2, h5, h11, h10, h16, h17, h18, h19, h20, h21, h22, h23, h28, h31, h34, h37])) rfl rfl hP
                              have hD : va_D A (fl [[ia ty q 57 (plose r)]]) := (D_same2 hD [q] rfl rfl)
                              exact end_v (bs' := (fun (_ : Unit) => [[ia ty q 57 (plose r)]])) () hx hb hr hlocks hP hD hS trivial (Nat.le_of_ble_eq_true rfl) (Nat.le_of_ble_eq_true rfl) dX10_lose_70
                            · exact absurd (by decide) c_14
                  · exact absurd (by decide) c_9
