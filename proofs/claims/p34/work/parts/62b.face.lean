set_option maxHeartbeats 4000000 in
set_option maxRecDepth 100000 in
theorem c_X9_simulateN (l : Launch) (D : va_G) (ty : Nat → ClassId) (w9 : Int64) (v9 : Int32) (bc tx hi sl : Nat) (b : Nat → Nat) (a : Nat → Nat) (r : Nat → Int32) (x y : Int64) (g : Nat → Nat → Int32) (r2 : Nat → Int32) (x2 y2 : Int64) (g2 : Nat → Nat → Int32) (hst : l.stackTraces = false) (hn : ¬ inR v9 1 60) : CXi l yX9_simulate wsX9_simulate ({ frames := 7, cells := 1, slots := 6, locals := 104 }) D ty [.ref bc, .long w9, .int v9] [[ob bc 8 [.ref tx, .ref (a 0), .ref (b 0), .ref hi, .ref sl]], (stW ty a r x y g), (stW ty b r2 x2 y2 g2)] [[ob bc 8 [.ref tx, .ref (a 0), .ref (b 0), .ref hi, .ref sl]], (stW ty a r x y g), (stW ty b r2 x2 y2 g2)] (fun (RET : Int32) (_ : Unit) => RET = 0 ∧ False) (fun (_ : Unit) => [[ob bc 8 [.ref tx, .ref (a 0), .ref (b 0), .ref hi, .ref sl]], (stW ty a r x y g), (stW ty b r2 x2 y2 g2)]) (fun E => E = EIA) := by
  refine CXi_of cX9_simulate 8 (some .int) (by decide) rfl (Nat.le_of_ble_eq_true rfl) ?_
  intro p e s m args below meth c A hx hb hr hml hown hlocks hin hts hA hX hK hP hD ht0 ls hl
  have hown : s.vm.findClass RX9 = some m.cls := hown
  have hS : va_S A s.heap s.heap [] := va_S.rf
  have hl : lv_has ls 8 [(0, .ref bc), (1, .long w9), (3, .int v9)] := hl
  refine lv_iload_n hx hb dX9_simulate_0 rfl (lv_at hl 2 rfl) ?_
  refine lv_iconst (v := 1) hx hb dX9_simulate_1 (by decide) ?_
  refine lv_bipush (v := 60) hx hb dX9_simulate_2 (by decide) ?_
  refine cSxv (As := [.int v9, .int 1, .int 60]) (rest := []) ⟨hx, hb, hml, hown, hts⟩ (c_X9_needRange l D ty v9 1 60 hst) (va_cwS 3 hts gX9_simulate_X9_needRange rfl rfl rfl (by decide +kernel) ⟨Nat.le_of_ble_eq_true rfl, Nat.le_of_ble_eq_true rfl⟩) hK hX hP hD hS hA rfl hl.1 rfl (Nat.le_of_ble_eq_true rfl) dX9_simulate_4 ⟨Nat.le_of_ble_eq_true rfl, Nat.le_of_ble_eq_true rfl⟩ hlocks ht0 (Nat.le_of_ble_eq_true rfl) (Nat.le_of_ble_eq_true rfl) (fun E hE => hE.1) (fun h_3 H locs hP hD hS => ?_)
  exact absurd h_3 hn
