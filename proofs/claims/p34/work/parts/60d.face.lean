set_option maxHeartbeats 4000000 in
set_option maxRecDepth 100000 in
theorem c_X9_runScriptN (l : Launch) (D : va_G) (ty : Nat → ClassId) (v9 : Int32) (w9 : Int64) (bc tx hi sl : Nat) (b : Nat → Nat) (a : Nat → Nat) (hst : l.stackTraces = false) (hn : inR v9 1 3 → lg_cmp w9 0 < 0) : CXi l yX9_runScript wsX9_runScript ({ frames := 7, cells := 2, slots := 12, locals := 104 }) D ty [.ref bc, .int v9, .long w9] [[ob bc 8 [.ref tx, .ref (a 0), .ref (b 0), .ref hi, .ref sl]]] [[ob bc 8 [.ref tx, .ref (a 0), .ref (b 0), .ref hi, .ref sl]]] (fun (RET : Int32) (_ : Unit) => RET = 0 ∧ False) (fun (_ : Unit) => [[ob bc 8 [.ref tx, .ref (a 0), .ref (b 0), .ref hi, .ref sl]]]) (fun E => E = EIA) := by
  refine CXi_of cX9_runScript 5 (some .int) (by decide) rfl (Nat.le_of_ble_eq_true rfl) ?_
  intro p e s m args below meth c A hx hb hr hml hown hlocks hin hts hA hX hK hP hD ht0 ls hl
  have hown : s.vm.findClass RX9 = some m.cls := hown
  have hS : va_S A s.heap s.heap [] := va_S.rf
  have hl : lv_has ls 5 [(0, .ref bc), (1, .int v9), (2, .long w9)] := hl
  refine lv_iload_n hx hb dX9_runScript_0 rfl (lv_at hl 1 rfl) ?_
  refine lv_iconst (v := 1) hx hb dX9_runScript_1 (by decide) ?_
  refine lv_iconst (v := 3) hx hb dX9_runScript_2 (by decide) ?_
  refine cSxv (As := [.int v9, .int 1, .int 3]) (rest := []) ⟨hx, hb, hml, hown, hts⟩ (c_X9_needRange l D ty v9 1 3 hst) (va_cwS 3 hts gX9_runScript_X9_needRange rfl rfl rfl (by decide +kernel) ⟨Nat.le_of_ble_eq_true rfl, Nat.le_of_ble_eq_true rfl⟩) hK hX hP hD hS hA rfl hl.1 rfl (Nat.le_of_ble_eq_true rfl) dX9_runScript_3 ⟨Nat.le_of_ble_eq_true rfl, Nat.le_of_ble_eq_true rfl⟩ hlocks ht0 (Nat.le_of_ble_eq_true rfl) (Nat.le_of_ble_eq_true rfl) (fun E hE => hE.1) (fun h_3 H locs hP hD hS => ?_)
  refine lv_lload_n hx hb dX9_runScript_6 rfl (lv_at hl 2 rfl) ?_
  refine lv_lconst (v := 0) hx hb dX9_runScript_7 (by decide) ?_
  refine W.lcmp hx hb dX9_runScript_8 ?_
  refine lv_if_lt (tgt := 20) hx hb dX9_runScript_9 (by decide) (fun c_4 => ?_) (fun c_4 => ?_)
  · skip
    obtain ⟨sa9, hsa9⟩ := hX.1.2.2.2.2.2.2.2.2.2.2.1
    exact vx_throwS hx hb hst (own := RX9) (names := excN) (ik := 216) (is := 218) (ic := 220) (sa := sa9) hown (by decide +kernel) (by decide +kernel) (hts (Cond.classLink RX9 216 "java/lang/IllegalArgumentException") (List.mem_of_getElem? (i := 1) rfl)) (hts (Cond.initialized "java/lang/IllegalArgumentException") (List.mem_of_getElem? (i := 2) rfl)) hsa9 (vx_hat (B := exD EIA) (fun z hz => hts z (List.mem_cons_of_mem _ (List.mem_append_right _ hz))) (by decide +kernel) (exD_of hX.1 hX.1.2.2.1.1)) (by decide +kernel) hX.2.1 hX.2.2.1 hS (hl.1.trans hml.symm) dX9_runScript_20 dX9_runScript_23 dX9_runScript_24 dX9_runScript_26 dX9_runScript_29 (fun z hz => (ht0 z hz).elim) (Nat.le_of_ble_eq_true rfl) (Nat.le_of_ble_eq_true rfl) (Nat.le_of_ble_eq_true rfl) (Nat.le_of_ble_eq_true rfl) hlocks (fun t9 hv9 hz9 hk9 => exc_at rfl hP hD hS t9 hz9 hk9) hS.2.2 (Nat.le_of_ble_eq_true rfl) (Nat.le_of_ble_eq_true rfl)
  · first | exact absurd c_4 (hn h_3) | exact absurd (hn h_3) c_4
