set_option maxHeartbeats 4000000 in
set_option maxRecDepth 100000 in
theorem c_X9_undo0 (l : Launch) (D : va_G) (ty : Nat → ClassId) (bc tx hi sl : Nat) (b : Nat → Nat) (a : Nat → Nat) (hs : Nat) (hst : l.stackTraces = false) : CXi l yX9_undo wsX9_undo ({ frames := 6, cells := 1, slots := 6, locals := 82 }) D ty [.ref bc] [[ob bc 8 [.ref tx, .ref (a 0), .ref (b 0), .ref hi, .ref sl]], [ob hi 2 [.ref hs, .int 0]]] [[ob bc 8 [.ref tx, .ref (a 0), .ref (b 0), .ref hi, .ref sl]], [ob hi 2 [.ref hs, .int 0]]] (fun (RET : Int32) (_ : Unit) => RET = 0 ∧ False) (fun (_ : Unit) => [[ob bc 8 [.ref tx, .ref (a 0), .ref (b 0), .ref hi, .ref sl]], [ob hi 2 [.ref hs, .int 0]]]) (fun E => E = EIS) := by
  refine CXi_of cX9_undo 1 (some .int) (by decide) rfl (Nat.le_of_ble_eq_true rfl) ?_
  intro p e s m args below meth c A hx hb hr hml hown hlocks hin hts hA hX hK hP hD ht0 ls hl
  have hown : s.vm.findClass RX9 = some m.cls := hown
  have hS : va_S A s.heap s.heap [] := va_S.rf
  have i_X9 : ∀ z ∈ wsX90, z ∈ wsX9_undo := fun z h => List.mem_cons_of_mem _ (List.mem_append_left _ (List.mem_append_left _ (List.mem_append_left _ (List.mem_append_left _ (List.mem_append_left _ (List.mem_append_left _ (List.mem_append_left _ (List.mem_append_right _ h))))))))
  have i_X2 : ∀ z ∈ wsX20, z ∈ wsX9_undo := fun z h => List.mem_cons_of_mem _ (List.mem_append_left _ (List.mem_append_left _ (List.mem_append_left _ (List.mem_append_left _ (List.mem_append_left _ (List.mem_append_left _ (List.mem_append_right _ h)))))))
  have hl : lv_has ls 1 [(0, .ref bc)] := hl
  refine lv_aload_n hx hb dX9_undo_0 rfl (lv_at hl 0 rfl) ?_
  refine va_get (D := D) (ci := 8) (v := .ref hi) (C := RX9) (T := TX9) (N := 5) hx hb hts i_X9 hown hK hP 0 rfl rfl 3 (by decide) (hts (Cond.fieldLink RX9 29 "BrownClock" "history" "LBrownClock$History;") (List.mem_of_getElem? (i := 3) rfl)) (fun _ h9 => h9) rfl dX9_undo_1 ?_
  refine va_get (D := D) (ci := 2) (v := .int 0) (C := RX2) (T := TX2) (N := 2) hx hb hts i_X2 hown hK hP 1 rfl rfl 1 (by decide) (hts (Cond.fieldLink RX9 179 "BrownClock$History" "count" "I") (List.mem_of_getElem? (i := 4) rfl)) (fun _ h9 => h9) rfl dX9_undo_4 ?_
  refine lv_if_gt (tgt := 20) hx hb dX9_undo_7 (by decide) (fun c_1 => ?_) (fun c_1 => ?_)
  · exact absurd c_1 (by decide)
  · skip
    obtain ⟨sa9, hsa9⟩ := hX.1.2.2.2.2.2.2.2.2.2.1
    exact vx_throwS hx hb hst (own := RX9) (names := excN) (ik := 48) (is := 182) (ic := 52) (sa := sa9) hown (by decide +kernel) (by decide +kernel) (hts (Cond.classLink RX9 48 "java/lang/IllegalStateException") (List.mem_of_getElem? (i := 1) rfl)) (hts (Cond.initialized "java/lang/IllegalStateException") (List.mem_of_getElem? (i := 2) rfl)) hsa9 (vx_hat (B := exD EIS) (fun z hz => hts z (List.mem_cons_of_mem _ (List.mem_append_right _ hz))) (by decide +kernel) (exD_of hX.1 hX.1.2.2.1.2.1)) (by decide +kernel) hX.2.1 hX.2.2.1 hS (hl.1.trans hml.symm) dX9_undo_10 dX9_undo_13 dX9_undo_14 dX9_undo_16 dX9_undo_19 (fun z hz => (ht0 z hz).elim) (Nat.le_of_ble_eq_true rfl) (Nat.le_of_ble_eq_true rfl) (Nat.le_of_ble_eq_true rfl) (Nat.le_of_ble_eq_true rfl) hlocks (fun t9 hv9 hz9 hk9 => exc_at rfl hP hD hS t9 hz9 hk9) hS.2.2 (Nat.le_of_ble_eq_true rfl) (Nat.le_of_ble_eq_true rfl)
