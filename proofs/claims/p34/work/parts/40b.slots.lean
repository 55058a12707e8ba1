set_option maxHeartbeats 4000000 in
set_option maxRecDepth 100000 in
theorem c_X9_needRange (l : Launch) (D : va_G) (ty : Nat → ClassId) (v9 lo9 hi9 : Int32) (hst : l.stackTraces = false) : CXv l yX9_needRange wsX9_needRange ({ frames := 6, cells := 1, slots := 6, locals := 82 }) D ty [.int v9, .int lo9, .int hi9] [] [] (fun (_ : Unit) => inR v9 lo9 hi9) (fun (_ : Unit) => []) (fun E => E = EIA ∧ ¬ inR v9 lo9 hi9) := by
  refine CXv_of cX9_needRange 3 none (by decide) rfl (Nat.le_of_ble_eq_true rfl) ?_
  intro p e s m args below meth c A hx hb hr hml hown hlocks hin hts hA hX hK hP hD ht0 ls hl
  have hown : s.vm.findClass RX9 = some m.cls := hown
  have hS : va_S A s.heap s.heap [] := va_S.rf
  have hl : lv_has ls 3 [(0, .int v9), (1, .int lo9), (2, .int hi9)] := hl
  refine lv_iload_n hx hb dX9_needRange_0 rfl (lv_at hl 0 rfl) ?_
  refine lv_iload_n hx hb dX9_needRange_1 rfl (lv_at hl 1 rfl) ?_
  refine lv_icmp_lt (tgt := 10) hx hb dX9_needRange_2 (by decide) (fun c_1 => ?_) (fun c_1 => ?_)
  · skip
    obtain ⟨sa9, hsa9⟩ := hX.1.2.2.2.2.1
    exact vx_throwS hx hb hst (own := RX9) (names := excN) (ik := 216) (is := 248) (ic := 220) (sa := sa9) hown (by decide +kernel) (by decide +kernel) (hts (Cond.classLink RX9 216 "java/lang/IllegalArgumentException") (List.mem_of_getElem? (i := 1) rfl)) (hts (Cond.initialized "java/lang/IllegalArgumentException") (List.mem_of_getElem? (i := 2) rfl)) hsa9 (vx_hat (B := exD EIA) (fun z hz => hts z (List.mem_cons_of_mem _ (List.mem_append_right _ hz))) (by decide +kernel) (exD_of hX.1 hX.1.2.2.1.1)) (by decide +kernel) hX.2.1 hX.2.2.1 hS (hl.1.trans hml.symm) dX9_needRange_10 dX9_needRange_13 dX9_needRange_14 dX9_needRange_16 dX9_needRange_19 (fun z hz => (ht0 z hz).elim) (Nat.le_of_ble_eq_true rfl) (Nat.le_of_ble_eq_true rfl) (Nat.le_of_ble_eq_true rfl) (Nat.le_of_ble_eq_true rfl) hlocks (fun t9 hv9 hz9 hk9 => exc_at ⟨rfl, fun q0 => q0.1 c_1⟩ hP hD hS t9 hz9 hk9) hS.2.2 (Nat.le_of_ble_eq_true rfl) (Nat.le_of_ble_eq_true rfl)
  · skip
    refine lv_iload_n hx hb dX9_needRange_5 rfl (lv_at hl 0 rfl) ?_
    refine lv_iload_n hx hb dX9_needRange_6 rfl (lv_at hl 2 rfl) ?_
    refine lv_icmp_le (tgt := 20) hx hb dX9_needRange_7 (by decide) (fun c_2 => ?_) (fun c_2 => ?_)
    · skip
      have hP : va_P D vwCl (fl []) s.heap := hP
      have hD : va_D A (fl []) := hD
      exact vx_ret (end_v (bs' := (fun (_ : Unit) => [])) () hx hb hr hlocks hP hD hS ⟨c_1, Int32.not_lt.mpr c_2⟩ (Nat.le_of_ble_eq_true rfl) (Nat.le_of_ble_eq_true rfl) dX9_needRange_20)
    · skip
      obtain ⟨sa9, hsa9⟩ := hX.1.2.2.2.2.1
      exact vx_throwS hx hb hst (own := RX9) (names := excN) (ik := 216) (is := 248) (ic := 220) (sa := sa9) hown (by decide +kernel) (by decide +kernel) (hts (Cond.classLink RX9 216 "java/lang/IllegalArgumentException") (List.mem_of_getElem? (i := 1) rfl)) (hts (Cond.initialized "java/lang/IllegalArgumentException") (List.mem_of_getElem? (i := 2) rfl)) hsa9 (vx_hat (B := exD EIA) (fun z hz => hts z (List.mem_cons_of_mem _ (List.mem_append_right _ hz))) (by decide +kernel) (exD_of hX.1 hX.1.2.2.1.1)) (by decide +kernel) hX.2.1 hX.2.2.1 hS (hl.1.trans hml.symm) dX9_needRange_10 dX9_needRange_13 dX9_needRange_14 dX9_needRange_16 dX9_needRange_19 (fun z hz => (ht0 z hz).elim) (Nat.le_of_ble_eq_true rfl) (Nat.le_of_ble_eq_true rfl) (Nat.le_of_ble_eq_true rfl) (Nat.le_of_ble_eq_true rfl) hlocks (fun t9 hv9 hz9 hk9 => exc_at ⟨rfl, fun q0 => c_2 (Int32.not_lt.mp q0.2)⟩ hP hD hS t9 hz9 hk9) hS.2.2 (Nat.le_of_ble_eq_true rfl) (Nat.le_of_ble_eq_true rfl)
set_option maxHeartbeats 4000000 in
set_option maxRecDepth 100000 in
theorem c_X9_needIndex (l : Launch) (D : va_G) (ty : Nat → ClassId) (v9 hi9 : Int32) (hst : l.stackTraces = false) : CXv l yX9_needIndex wsX9_needIndex ({ frames := 6, cells := 1, slots := 6, locals := 82 }) D ty [.int v9, .int hi9] [] [] (fun (_ : Unit) => inI v9 hi9) (fun (_ : Unit) => []) (fun E => E = EIO ∧ ¬ inI v9 hi9) := by
  refine CXv_of cX9_needIndex 2 none (by decide) rfl (Nat.le_of_ble_eq_true rfl) ?_
  intro p e s m args below meth c A hx hb hr hml hown hlocks hin hts hA hX hK hP hD ht0 ls hl
  have hown : s.vm.findClass RX9 = some m.cls := hown
  have hS : va_S A s.heap s.heap [] := va_S.rf
  have hl : lv_has ls 2 [(0, .int v9), (1, .int hi9)] := hl
  refine lv_iload_n hx hb dX9_needIndex_0 rfl (lv_at hl 0 rfl) ?_
  refine lv_if_lt (tgt := 9) hx hb dX9_needIndex_1 (by decide) (fun c_1 => ?_) (fun c_1 => ?_)
  · skip
    obtain ⟨sa9, hsa9⟩ := hX.1.2.2.2.2.2.2.2.1
    exact vx_throwS hx hb hst (own := RX9) (names := excN) (ik := 250) (is := 252) (ic := 254) (sa := sa9) hown (by decide +kernel) (by decide +kernel) (hts (Cond.classLink RX9 250 "java/lang/IndexOutOfBoundsException") (List.mem_of_getElem? (i := 1) rfl)) (hts (Cond.initialized "java/lang/IndexOutOfBoundsException") (List.mem_of_getElem? (i := 2) rfl)) hsa9 (vx_hat (B := exD EIO) (fun z hz => hts z (List.mem_cons_of_mem _ (List.mem_append_right _ hz))) (by decide +kernel) (exD_of hX.1 hX.1.2.2.1.2.2)) (by decide +kernel) hX.2.1 hX.2.2.1 hS (hl.1.trans hml.symm) dX9_needIndex_9 dX9_needIndex_12 dX9_needIndex_13 dX9_needIndex_15 dX9_needIndex_18 (fun z hz => (ht0 z hz).elim) (Nat.le_of_ble_eq_true rfl) (Nat.le_of_ble_eq_true rfl) (Nat.le_of_ble_eq_true rfl) (Nat.le_of_ble_eq_true rfl) hlocks (fun t9 hv9 hz9 hk9 => exc_at ⟨rfl, fun q0 => q0.1 c_1⟩ hP hD hS t9 hz9 hk9) hS.2.2 (Nat.le_of_ble_eq_true rfl) (Nat.le_of_ble_eq_true rfl)
  · skip
    refine lv_iload_n hx hb dX9_needIndex_4 rfl (lv_at hl 0 rfl) ?_
    refine lv_iload_n hx hb dX9_needIndex_5 rfl (lv_at hl 1 rfl) ?_
    refine lv_icmp_lt (tgt := 19) hx hb dX9_needIndex_6 (by decide) (fun c_2 => ?_) (fun c_2 => ?_)
    · skip
      have hP : va_P D vwCl (fl []) s.heap := hP
      have hD : va_D A (fl []) := hD
      exact vx_ret (end_v (bs' := (fun (_ : Unit) => [])) () hx hb hr hlocks hP hD hS ⟨c_1, c_2⟩ (Nat.le_of_ble_eq_true rfl) (Nat.le_of_ble_eq_true rfl) dX9_needIndex_19)
    · skip
      obtain ⟨sa9, hsa9⟩ := hX.1.2.2.2.2.2.2.2.1
      exact vx_throwS hx hb hst (own := RX9) (names := excN) (ik := 250) (is := 252) (ic := 254) (sa := sa9) hown (by decide +kernel) (by decide +kernel) (hts (Cond.classLink RX9 250 "java/lang/IndexOutOfBoundsException") (List.mem_of_getElem? (i := 1) rfl)) (hts (Cond.initialized "java/lang/IndexOutOfBoundsException") (List.mem_of_getElem? (i := 2) rfl)) hsa9 (vx_hat (B := exD EIO) (fun z hz => hts z (List.mem_cons_of_mem _ (List.mem_append_right _ hz))) (by decide +kernel) (exD_of hX.1 hX.1.2.2.1.2.2)) (by decide +kernel) hX.2.1 hX.2.2.1 hS (hl.1.trans hml.symm) dX9_needIndex_9 dX9_needIndex_12 dX9_needIndex_13 dX9_needIndex_15 dX9_needIndex_18 (fun z hz => (ht0 z hz).elim) (Nat.le_of_ble_eq_true rfl) (Nat.le_of_ble_eq_true rfl) (Nat.le_of_ble_eq_true rfl) (Nat.le_of_ble_eq_true rfl) hlocks (fun t9 hv9 hz9 hk9 => exc_at ⟨rfl, fun q0 => c_2 q0.2⟩ hP hD hS t9 hz9 hk9) hS.2.2 (Nat.le_of_ble_eq_true rfl) (Nat.le_of_ble_eq_true rfl)
