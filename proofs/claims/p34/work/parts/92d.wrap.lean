set_option maxHeartbeats 4000000 in
set_option maxRecDepth 100000 in
theorem c_T_battery_n0 (l : Launch) (D : va_G) (ty : Nat → ClassId) (v9 : Int32) (bc tx hi sl : Nat) (b : Nat → Nat) (a : Nat → Nat) (r : Nat → Int32) (x y : Int64) (g : Nat → Nat → Int32) (hs cn : Nat) (ad : Nat → Nat → Nat) (ur : Nat → Nat → Int32) (ux uy : Nat → Int64) (ug : Nat → Nat → Nat → Int32) (hst : l.stackTraces = false) (hc : cn ≤ 14) (hc0 : ¬ (inR v9 0 9999)) : CTi l yL_tryBattery wsL_tryBattery ({ frames := 8, cells := 1, slots := 6, locals := 125 }) D ty [.ref bc, .int v9] [[ob bc 8 [.ref tx, .ref (a 0), .ref (b 0), .ref hi, .ref sl]], [ob hi 2 [.ref hs, .int (nI cn)]], [sa ty hs 14 (fun k => some (ad k 0))], (stW ty a r x y g), (hsW ty ad ur ux uy ug)] (fun (RET : Int32) (_ : Unit) => RET = (-999999002)) (fun (_ : Unit) => [[ob bc 8 [.ref tx, .ref (a 0), .ref (b 0), .ref hi, .ref sl]], [ob hi 2 [.ref hs, .int (nI cn)]], [sa ty hs 14 (fun k => some (ad k 0))], (stW ty a r x y g), (hsW ty ad ur ux uy ug)]) := by
  refine CTi_ofH cL_tryBattery 3 (some .int) [(0, 5, 6, 13)] (by decide) rfl (Nat.le_of_ble_eq_true rfl) ?_
  intro p e s m args below meth c A hx hb hr hml hown hlocks hin hts hA hX hK hP hD ht0 ls hl
  have hown : s.vm.findClass RL = some m.cls := hown
  have hS : va_S A s.heap s.heap [] := va_S.rf
  have hl : lv_has ls 3 [(0, .ref bc), (1, .int v9)] := hl
  refine lv_aload_n hx hb dL_tryBattery_0 rfl (lv_at hl 0 rfl) ?_
  refine lv_iload_n hx hb dL_tryBattery_1 rfl (lv_at hl 1 rfl) ?_
  refine cVxi (As := [.int v9]) (rest := []) ⟨hx, hb, hml, hown, hts⟩ (c_X9_battery l D ty v9 bc tx hi sl b a r x y g hs cn ad ur ux uy ug hst hc) (cwV 1 hts gL_tryBattery_X9_battery rfl rfl rfl (by decide +kernel) ⟨Nat.le_of_ble_eq_true rfl, Nat.le_of_ble_eq_true rfl⟩) hK hX hP hD hS hA (pk (bs := [[ob bc 8 [.ref tx, .ref (a 0), .ref (b 0), .ref hi, .ref sl]], [ob hi 2 [.ref hs, .int (nI cn)]], [sa ty hs 14 (fun k => some (ad k 0))], (stW ty a r x y g), (hsW ty ad ur ux uy ug)]) (bsc := [[ob bc 8 [.ref tx, .ref (a 0), .ref (b 0), .ref hi, .ref sl]], [ob hi 2 [.ref hs, .int (nI cn)]], [sa ty hs 14 (fun k => some (ad k 0))], (stW ty a r x y g), (hsW ty ad ur ux uy ug)]) (bsr := []) [0, 1, 2, 3, 4] [] 5 rfl (by decide +kernel) rfl rfl) (ci := 8) rfl 0 rfl rfl hl.1 rfl (Nat.le_of_ble_eq_true rfl) dL_tryBattery_2 ⟨Nat.le_of_ble_eq_true rfl, Nat.le_of_ble_eq_true rfl⟩ (fun E hE ce q9 H locs hP hD hS hce hcv hcl => ?_) (fun r9 u9 h9 H locs hP hD hS => ?_)
  · skip
    obtain ⟨hEE, h0⟩ := hE
    subst hEE
    have hP : va_P D vwCl (fl [[ob bc 8 [.ref tx, .ref (a 0), .ref (b 0), .ref hi, .ref sl]], [ob hi 2 [.ref hs, .int (nI cn)]], [sa ty hs 14 (fun k => some (ad k 0))], (stW ty a r x y g), (hsW ty ad ur ux uy ug)]) H := by rw [List.append_nil] at hP; exact hP
    have hD : va_D A (fl [[ob bc 8 [.ref tx, .ref (a 0), .ref (b 0), .ref hi, .ref sl]], [ob hi 2 [.ref hs, .int (nI cn)]], [sa ty hs 14 (fun k => some (ad k 0))], (stW ty a r x y g), (hsW ty ad ur ux uy ug)]) := by rw [List.append_nil] at hD; exact hD
    refine vx_catch (own := RL) (name := EIA) (E := EIA) hown [] ⟨0, 5, 6, 13⟩ [] (ht0.trans rfl) (fun z hz => by cases hz) (by decide) (by decide) (hts (Cond.classLink RL 13 "java/lang/IllegalArgumentException") (List.mem_of_getElem? (i := 1) rfl)) (va_Nw.use rfl hX.1.2.2.1.1) hce hcv hcl ?_
    refine lv_astore_n (lv' := [(2, .ref q9), (0, .ref bc), (1, .int v9)]) hx hb dL_tryBattery_6 rfl hl (by decide) rfl (fun ls hl => ?_)
    refine lv_ldc hx hb hown (hts (Cond.constant RL 15 (-999999002)) (List.mem_of_getElem? (i := 2) rfl)) dL_tryBattery_7 ?_
    have hP : va_P D vwCl (fl [[ob bc 8 [.ref tx, .ref (a 0), .ref (b 0), .ref hi, .ref sl]], [ob hi 2 [.ref hs, .int (nI cn)]], [sa ty hs 14 (fun k => some (ad k 0))], (stW ty a r x y g), (hsW ty ad ur ux uy ug)]) H := hP
    have hD : va_D A (fl [[ob bc 8 [.ref tx, .ref (a 0), .ref (b 0), .ref hi, .ref sl]], [ob hi 2 [.ref hs, .int (nI cn)]], [sa ty hs 14 (fun k => some (ad k 0))], (stW ty a r x y g), (hsW ty ad ur ux uy ug)]) := hD
    exact end_i (bs' := (fun (_ : Unit) => [[ob bc 8 [.ref tx, .ref (a 0), .ref (b 0), .ref hi, .ref sl]], [ob hi 2 [.ref hs, .int (nI cn)]], [sa ty hs 14 (fun k => some (ad k 0))], (stW ty a r x y g), (hsW ty ad ur ux uy ug)])) () hx hb hr hlocks hP hD hS (by first | rfl | decide | simp []) (Nat.le_of_ble_eq_true rfl) (Nat.le_of_ble_eq_true rfl) dL_tryBattery_9
  · exact absurd h9.2 hc0
set_option maxHeartbeats 4000000 in
set_option maxRecDepth 100000 in
theorem c_T_load (l : Launch) (D : va_G) (ty : Nat → ClassId) (bc tx hi sl : Nat) (b : Nat → Nat) (a : Nat → Nat) (r : Nat → Int32) (x y : Int64) (g : Nat → Nat → Int32) (cod told ln : Nat) (cd : Nat → Int32) (p9 z1 z2 z3 : Int32) (t : Nat → Int32) (r2 : Nat → Int32) (x2 y2 : Int64) (g2 : Nat → Nat → Int32) (hs : Nat) (cv : Int32) (ss sf : Nat) (kf : Nat → Int32) (hst : l.stackTraces = false) (hl6 : ln ≤ 60) (hc0 : (rdAll cd ln).1 = true) : CTi l yL_tryLoad wsL_tryLoad ({ frames := 7, cells := 1, slots := 6, locals := 152 }) D ty [.ref bc] [[ob bc 8 [.ref tx, .ref (a 0), .ref (b 0), .ref hi, .ref sl]], [ob tx 7 [.ref cod, .int (nI ln), .int p9, .int z1, .int z2, .int z3, .ref told]], [ia ty cod 60 cd], [za ty told 8 t], (stW ty b r2 x2 y2 g2), (stW ty a r x y g), [ob hi 2 [.ref hs, .int cv]], [ob sl 3 [.ref ss, .ref sf]], [za ty sf 2 kf]] (fun (RET : Int32) (_ : Unit) => RET = (setN (rdAll cd ln).2.2.2.2.2.1 4)) (fun (_ : Unit) => [[ob bc 8 [.ref tx, .ref (a 0), .ref (b 0), .ref hi, .ref sl]], [ob tx 7 [.ref cod, .int (nI ln), .int (nI (rdAll cd ln).2.1), .int (nI (rdAll cd ln).2.2.1), .int (nI (rdAll cd ln).2.2.2.1), .int (nI (rdAll cd ln).2.2.2.2.1), .ref told]], [ia ty cod 60 cd], [za ty told 8 ((rdAll cd ln).2.2.2.2.2.2)], (stW ty b ((rdAll cd ln).2.2.2.2.2.1) 0 0 g2), (stW ty a ((rdAll cd ln).2.2.2.2.2.1) 0 0 g2), [ob hi 2 [.ref hs, .int 0]], [ob sl 3 [.ref ss, .ref sf]], [za ty sf 2 (fun _ => 0)]]) := by
  refine CTi_ofH cL_tryLoad 2 (some .int) [(0, 4, 5, 16)] (by decide) rfl (Nat.le_of_ble_eq_true rfl) ?_
  intro p e s m args below meth c A hx hb hr hml hown hlocks hin hts hA hX hK hP hD ht0 ls hl
  have hown : s.vm.findClass RL = some m.cls := hown
  have hS : va_S A s.heap s.heap [] := va_S.rf
  have hl : lv_has ls 2 [(0, .ref bc)] := hl
  refine lv_aload_n hx hb dL_tryLoad_0 rfl (lv_at hl 0 rfl) ?_
  refine cVxi (As := []) (rest := []) ⟨hx, hb, hml, hown, hts⟩ (c_X9_load l D ty bc tx hi sl b a r x y g cod told ln cd p9 z1 z2 z3 t r2 x2 y2 g2 hs cv ss sf kf hst hl6) (cwV 0 hts gL_tryLoad_X9_load rfl rfl rfl (by decide +kernel) ⟨Nat.le_of_ble_eq_true rfl, Nat.le_of_ble_eq_true rfl⟩) hK hX hP hD hS hA (pk (bs := [[ob bc 8 [.ref tx, .ref (a 0), .ref (b 0), .ref hi, .ref sl]], [ob tx 7 [.ref cod, .int (nI ln), .int p9, .int z1, .int z2, .int z3, .ref told]], [ia ty cod 60 cd], [za ty told 8 t], (stW ty b r2 x2 y2 g2), (stW ty a r x y g), [ob hi 2 [.ref hs, .int cv]], [ob sl 3 [.ref ss, .ref sf]], [za ty sf 2 kf]]) (bsc := [[ob bc 8 [.ref tx, .ref (a 0), .ref (b 0), .ref hi, .ref sl]], [ob tx 7 [.ref cod, .int (nI ln), .int p9, .int z1, .int z2, .int z3, .ref told]], [ia ty cod 60 cd], [za ty told 8 t], (stW ty b r2 x2 y2 g2), (stW ty a r x y g), [ob hi 2 [.ref hs, .int cv]], [ob sl 3 [.ref ss, .ref sf]], [za ty sf 2 kf]]) (bsr := []) [0, 1, 2, 3, 4, 5, 6, 7, 8] [] 9 rfl (by decide +kernel) rfl rfl) (ci := 8) rfl 0 rfl rfl hl.1 rfl (Nat.le_of_ble_eq_true rfl) dL_tryLoad_1 ⟨Nat.le_of_ble_eq_true rfl, Nat.le_of_ble_eq_true rfl⟩ (fun E hE ce q9 H locs hP hD hS hce hcv hcl => ?_) (fun r9 u9 h9 H locs hP hD hS => ?_)
  · skip
    obtain ⟨hEE, h0⟩ := hE
    exact absurd hc0 h0
  · skip
    have hP : va_P D vwCl (fl [[ob bc 8 [.ref tx, .ref (a 0), .ref (b 0), .ref hi, .ref sl]], [ob tx 7 [.ref cod, .int (nI ln), .int (nI (rdAll cd ln).2.1), .int (nI (rdAll cd ln).2.2.1), .int (nI (rdAll cd ln).2.2.2.1), .int (nI (rdAll cd ln).2.2.2.2.1), .ref told]], [ia ty cod 60 cd], [za ty told 8 ((rdAll cd ln).2.2.2.2.2.2)], (stW ty b ((rdAll cd ln).2.2.2.2.2.1) 0 0 g2), (stW ty a ((rdAll cd ln).2.2.2.2.2.1) 0 0 g2), [ob hi 2 [.ref hs, .int 0]], [ob sl 3 [.ref ss, .ref sf]], [za ty sf 2 (fun _ => 0)]]) H := by rw [List.append_nil] at hP; exact hP
    have hD : va_D A (fl [[ob bc 8 [.ref tx, .ref (a 0), .ref (b 0), .ref hi, .ref sl]], [ob tx 7 [.ref cod, .int (nI ln), .int (nI (rdAll cd ln).2.1), .int (nI (rdAll cd ln).2.2.1), .int (nI (rdAll cd ln).2.2.2.1), .int (nI (rdAll cd ln).2.2.2.2.1), .ref told]], [ia ty cod 60 cd], [za ty told 8 ((rdAll cd ln).2.2.2.2.2.2)], (stW ty b ((rdAll cd ln).2.2.2.2.2.1) 0 0 g2), (stW ty a ((rdAll cd ln).2.2.2.2.2.1) 0 0 g2), [ob hi 2 [.ref hs, .int 0]], [ob sl 3 [.ref ss, .ref sf]], [za ty sf 2 (fun _ => 0)]]) := by rw [List.append_nil] at hD; exact hD
    have h8 : r9 = (setN (rdAll cd ln).2.2.2.2.2.1 4) := h9.1
    subst h8
    have hP : va_P D vwCl (fl [[ob bc 8 [.ref tx, .ref (a 0), .ref (b 0), .ref hi, .ref sl]], [ob tx 7 [.ref cod, .int (nI ln), .int (nI (rdAll cd ln).2.1), .int (nI (rdAll cd ln).2.2.1), .int (nI (rdAll cd ln).2.2.2.1), .int (nI (rdAll cd ln).2.2.2.2.1), .ref told]], [ia ty cod 60 cd], [za ty told 8 ((rdAll cd ln).2.2.2.2.2.2)], (stW ty b ((rdAll cd ln).2.2.2.2.2.1) 0 0 g2), (stW ty a ((rdAll cd ln).2.2.2.2.2.1) 0 0 g2), [ob hi 2 [.ref hs, .int 0]], [ob sl 3 [.ref ss, .ref sf]], [za ty sf 2 (fun _ => 0)]]) H := hP
    have hD : va_D A (fl [[ob bc 8 [.ref tx, .ref (a 0), .ref (b 0), .ref hi, .ref sl]], [ob tx 7 [.ref cod, .int (nI ln), .int (nI (rdAll cd ln).2.1), .int (nI (rdAll cd ln).2.2.1), .int (nI (rdAll cd ln).2.2.2.1), .int (nI (rdAll cd ln).2.2.2.2.1), .ref told]], [ia ty cod 60 cd], [za ty told 8 ((rdAll cd ln).2.2.2.2.2.2)], (stW ty b ((rdAll cd ln).2.2.2.2.2.1) 0 0 g2), (stW ty a ((rdAll cd ln).2.2.2.2.2.1) 0 0 g2), [ob hi 2 [.ref hs, .int 0]], [ob sl 3 [.ref ss, .ref sf]], [za ty sf 2 (fun _ => 0)]]) := hD
    exact end_i (bs' := (fun (_ : Unit) => [[ob bc 8 [.ref tx, .ref (a 0), .ref (b 0), .ref hi, .ref sl]], [ob tx 7 [.ref cod, .int (nI ln), .int (nI (rdAll cd ln).2.1), .int (nI (rdAll cd ln).2.2.1), .int (nI (rdAll cd ln).2.2.2.1), .int (nI (rdAll cd ln).2.2.2.2.1), .ref told]], [ia ty cod 60 cd], [za ty told 8 ((rdAll cd ln).2.2.2.2.2.2)], (stW ty b ((rdAll cd ln).2.2.2.2.2.1) 0 0 g2), (stW ty a ((rdAll cd ln).2.2.2.2.2.1) 0 0 g2), [ob hi 2 [.ref hs, .int 0]], [ob sl 3 [.ref ss, .ref sf]], [za ty sf 2 (fun _ => 0)]])) () hx hb hr hlocks hP hD hS (by first | rfl | decide | simp []) (Nat.le_of_ble_eq_true rfl) (Nat.le_of_ble_eq_true rfl) dL_tryLoad_4
set_option maxHeartbeats 4000000 in
set_option maxRecDepth 100000 in
theorem c_T_load_n0 (l : Launch) (D : va_G) (ty : Nat → ClassId) (bc tx hi sl : Nat) (b : Nat → Nat) (a : Nat → Nat) (r : Nat → Int32) (x y : Int64) (g : Nat → Nat → Int32) (cod told ln : Nat) (cd : Nat → Int32) (p9 z1 z2 z3 : Int32) (t : Nat → Int32) (r2 : Nat → Int32) (x2 y2 : Int64) (g2 : Nat → Nat → Int32) (hs : Nat) (cv : Int32) (ss sf : Nat) (kf : Nat → Int32) (hst : l.stackTraces = false) (hl6 : ln ≤ 60) (hc0 : ¬ ((rdAll cd ln).1 = true)) : CTi l yL_tryLoad wsL_tryLoad ({ frames := 7, cells := 1, slots := 6, locals := 152 }) D ty [.ref bc] [[ob bc 8 [.ref tx, .ref (a 0), .ref (b 0), .ref hi, .ref sl]], [ob tx 7 [.ref cod, .int (nI ln), .int p9, .int z1, .int z2, .int z3, .ref told]], [ia ty cod 60 cd], [za ty told 8 t], (stW ty b r2 x2 y2 g2), (stW ty a r x y g), [ob hi 2 [.ref hs, .int cv]], [ob sl 3 [.ref ss, .ref sf]], [za ty sf 2 kf]] (fun (RET : Int32) (_ : Unit) => RET = (-999999003)) (fun (_ : Unit) => [[ob bc 8 [.ref tx, .ref (a 0), .ref (b 0), .ref hi, .ref sl]], [ob tx 7 [.ref cod, .int (nI ln), .int (nI (rdAll cd ln).2.1), .int (nI (rdAll cd ln).2.2.1), .int (nI (rdAll cd ln).2.2.2.1), .int (nI (rdAll cd ln).2.2.2.2.1), .ref told]], [ia ty cod 60 cd], [za ty told 8 ((rdAll cd ln).2.2.2.2.2.2)], (stW ty b ((rdAll cd ln).2.2.2.2.2.1) 0 0 g2), (stW ty a r x y g), [ob hi 2 [.ref hs, .int cv]], [ob sl 3 [.ref ss, .ref sf]], [za ty sf 2 kf]]) := by
  refine CTi_ofH cL_tryLoad 2 (some .int) [(0, 4, 5, 16)] (by decide) rfl (Nat.le_of_ble_eq_true rfl) ?_
  intro p e s m args below meth c A hx hb hr hml hown hlocks hin hts hA hX hK hP hD ht0 ls hl
  have hown : s.vm.findClass RL = some m.cls := hown
  have hS : va_S A s.heap s.heap [] := va_S.rf
  have hl : lv_has ls 2 [(0, .ref bc)] := hl
  refine lv_aload_n hx hb dL_tryLoad_0 rfl (lv_at hl 0 rfl) ?_
  refine cVxi (As := []) (rest := []) ⟨hx, hb, hml, hown, hts⟩ (c_X9_load l D ty bc tx hi sl b a r x y g cod told ln cd p9 z1 z2 z3 t r2 x2 y2 g2 hs cv ss sf kf hst hl6) (cwV 0 hts gL_tryLoad_X9_load rfl rfl rfl (by decide +kernel) ⟨Nat.le_of_ble_eq_true rfl, Nat.le_of_ble_eq_true rfl⟩) hK hX hP hD hS hA (pk (bs := [[ob bc 8 [.ref tx, .ref (a 0), .ref (b 0), .ref hi, .ref sl]], [ob tx 7 [.ref cod, .int (nI ln), .int p9, .int z1, .int z2, .int z3, .ref told]], [ia ty cod 60 cd], [za ty told 8 t], (stW ty b r2 x2 y2 g2), (stW ty a r x y g), [ob hi 2 [.ref hs, .int cv]], [ob sl 3 [.ref ss, .ref sf]], [za ty sf 2 kf]]) (bsc := [[ob bc 8 [.ref tx, .ref (a 0), .ref (b 0), .ref hi, .ref sl]], [ob tx 7 [.ref cod, .int (nI ln), .int p9, .int z1, .int z2, .int z3, .ref told]], [ia ty cod 60 cd], [za ty told 8 t], (stW ty b r2 x2 y2 g2), (stW ty a r x y g), [ob hi 2 [.ref hs, .int cv]], [ob sl 3 [.ref ss, .ref sf]], [za ty sf 2 kf]]) (bsr := []) [0, 1, 2, 3, 4, 5, 6, 7, 8] [] 9 rfl (by decide +kernel) rfl rfl) (ci := 8) rfl 0 rfl rfl hl.1 rfl (Nat.le_of_ble_eq_true rfl) dL_tryLoad_1 ⟨Nat.le_of_ble_eq_true rfl, Nat.le_of_ble_eq_true rfl⟩ (fun E hE ce q9 H locs hP hD hS hce hcv hcl => ?_) (fun r9 u9 h9 H locs hP hD hS => ?_)
  · skip
    obtain ⟨hEE, h0⟩ := hE
    subst hEE
    have hP : va_P D vwCl (fl [[ob bc 8 [.ref tx, .ref (a 0), .ref (b 0), .ref hi, .ref sl]], [ob tx 7 [.ref cod, .int (nI ln), .int (nI (rdAll cd ln).2.1), .int (nI (rdAll cd ln).2.2.1), .int (nI (rdAll cd ln).2.2.2.1), .int (nI (rdAll cd ln).2.2.2.2.1), .ref told]], [ia ty cod 60 cd], [za ty told 8 ((rdAll cd ln).2.2.2.2.2.2)], (stW ty b ((rdAll cd ln).2.2.2.2.2.1) 0 0 g2), (stW ty a r x y g), [ob hi 2 [.ref hs, .int cv]], [ob sl 3 [.ref ss, .ref sf]], [za ty sf 2 kf]]) H := by rw [List.append_nil] at hP; exact hP
    have hD : va_D A (fl [[ob bc 8 [.ref tx, .ref (a 0), .ref (b 0), .ref hi, .ref sl]], [ob tx 7 [.ref cod, .int (nI ln), .int (nI (rdAll cd ln).2.1), .int (nI (rdAll cd ln).2.2.1), .int (nI (rdAll cd ln).2.2.2.1), .int (nI (rdAll cd ln).2.2.2.2.1), .ref told]], [ia ty cod 60 cd], [za ty told 8 ((rdAll cd ln).2.2.2.2.2.2)], (stW ty b ((rdAll cd ln).2.2.2.2.2.1) 0 0 g2), (stW ty a r x y g), [ob hi 2 [.ref hs, .int cv]], [ob sl 3 [.ref ss, .ref sf]], [za ty sf 2 kf]]) := by rw [List.append_nil] at hD; exact hD
    refine vx_catch (own := RL) (name := EIS) (E := EIS) hown [] ⟨0, 4, 5, 16⟩ [] (ht0.trans rfl) (fun z hz => by cases hz) (by decide) (by decide) (hts (Cond.classLink RL 16 "java/lang/IllegalStateException") (List.mem_of_getElem? (i := 1) rfl)) (va_Nw.use rfl hX.1.2.2.1.2.1) hce hcv hcl ?_
    refine lv_astore_n (lv' := [(1, .ref q9), (0, .ref bc)]) hx hb dL_tryLoad_5 rfl hl (by decide) rfl (fun ls hl => ?_)
    refine lv_ldc hx hb hown (hts (Cond.constant RL 18 (-999999003)) (List.mem_of_getElem? (i := 2) rfl)) dL_tryLoad_6 ?_
    have hP : va_P D vwCl (fl [[ob bc 8 [.ref tx, .ref (a 0), .ref (b 0), .ref hi, .ref sl]], [ob tx 7 [.ref cod, .int (nI ln), .int (nI (rdAll cd ln).2.1), .int (nI (rdAll cd ln).2.2.1), .int (nI (rdAll cd ln).2.2.2.1), .int (nI (rdAll cd ln).2.2.2.2.1), .ref told]], [ia ty cod 60 cd], [za ty told 8 ((rdAll cd ln).2.2.2.2.2.2)], (stW ty b ((rdAll cd ln).2.2.2.2.2.1) 0 0 g2), (stW ty a r x y g), [ob hi 2 [.ref hs, .int cv]], [ob sl 3 [.ref ss, .ref sf]], [za ty sf 2 kf]]) H := hP
    have hD : va_D A (fl [[ob bc 8 [.ref tx, .ref (a 0), .ref (b 0), .ref hi, .ref sl]], [ob tx 7 [.ref cod, .int (nI ln), .int (nI (rdAll cd ln).2.1), .int (nI (rdAll cd ln).2.2.1), .int (nI (rdAll cd ln).2.2.2.1), .int (nI (rdAll cd ln).2.2.2.2.1), .ref told]], [ia ty cod 60 cd], [za ty told 8 ((rdAll cd ln).2.2.2.2.2.2)], (stW ty b ((rdAll cd ln).2.2.2.2.2.1) 0 0 g2), (stW ty a r x y g), [ob hi 2 [.ref hs, .int cv]], [ob sl 3 [.ref ss, .ref sf]], [za ty sf 2 kf]]) := hD
    exact end_i (bs' := (fun (_ : Unit) => [[ob bc 8 [.ref tx, .ref (a 0), .ref (b 0), .ref hi, .ref sl]], [ob tx 7 [.ref cod, .int (nI ln), .int (nI (rdAll cd ln).2.1), .int (nI (rdAll cd ln).2.2.1), .int (nI (rdAll cd ln).2.2.2.1), .int (nI (rdAll cd ln).2.2.2.2.1), .ref told]], [ia ty cod 60 cd], [za ty told 8 ((rdAll cd ln).2.2.2.2.2.2)], (stW ty b ((rdAll cd ln).2.2.2.2.2.1) 0 0 g2), (stW ty a r x y g), [ob hi 2 [.ref hs, .int cv]], [ob sl 3 [.ref ss, .ref sf]], [za ty sf 2 kf]])) () hx hb hr hlocks hP hD hS (by first | rfl | decide | simp []) (Nat.le_of_ble_eq_true rfl) (Nat.le_of_ble_eq_true rfl) dL_tryLoad_8
  · exact absurd h9.2 hc0
set_option maxHeartbeats 4000000 in
set_option maxRecDepth 100000 in
theorem c_T_save (l : Launch) (D : va_G) (ty : Nat → ClassId) (i9 : Int32) (bc tx hi sl : Nat) (b : Nat → Nat) (a : Nat → Nat) (r : Nat → Int32) (x y : Int64) (g : Nat → Nat → Int32) (ss sf : Nat) (bd : Nat → Nat → Nat) (kf : Nat → Int32) (vr : Nat → Nat → Int32) (vx vy : Nat → Int64) (vg : Nat → Nat → Nat → Int32) (hst : l.stackTraces = false) (hc0 : inI i9 2) : CTi l yL_trySave wsL_trySave ({ frames := 8, cells := 1, slots := 6, locals := 124 }) D ty [.ref bc, .int i9] [[ob bc 8 [.ref tx, .ref (a 0), .ref (b 0), .ref hi, .ref sl]], [ob sl 3 [.ref ss, .ref sf]], [sa ty ss 2 (fun k => some (bd k 0))], [za ty sf 2 kf], (stW ty a r x y g), (stW ty (bd 0) (vr 0) (vx 0) (vy 0) (vg 0)), (stW ty (bd 1) (vr 1) (vx 1) (vy 1) (vg 1))] (fun (RET : Int32) (_ : Unit) => RET = (r 0)) (fun (_ : Unit) => [[ob bc 8 [.ref tx, .ref (a 0), .ref (b 0), .ref hi, .ref sl]], [ob sl 3 [.ref ss, .ref sf]], [sa ty ss 2 (fun k => some (bd k 0))], [za ty sf 2 (upd kf i9.toNatClampNeg 1)], (stW ty a r x y g), (stW ty (bd 0) ((va_up vr i9.toNatClampNeg r) 0) ((va_up vx i9.toNatClampNeg x) 0) ((va_up vy i9.toNatClampNeg y) 0) ((va_up vg i9.toNatClampNeg g) 0)), (stW ty (bd 1) ((va_up vr i9.toNatClampNeg r) 1) ((va_up vx i9.toNatClampNeg x) 1) ((va_up vy i9.toNatClampNeg y) 1) ((va_up vg i9.toNatClampNeg g) 1))]) := by
  refine CTi_ofH cL_trySave 3 (some .int) [(0, 5, 6, 29)] (by decide) rfl (Nat.le_of_ble_eq_true rfl) ?_
  intro p e s m args below meth c A hx hb hr hml hown hlocks hin hts hA hX hK hP hD ht0 ls hl
  have hown : s.vm.findClass RL = some m.cls := hown
  have hS : va_S A s.heap s.heap [] := va_S.rf
  have hl : lv_has ls 3 [(0, .ref bc), (1, .int i9)] := hl
  refine lv_aload_n hx hb dL_trySave_0 rfl (lv_at hl 0 rfl) ?_
  refine lv_iload_n hx hb dL_trySave_1 rfl (lv_at hl 1 rfl) ?_
  refine cVxi (As := [.int i9]) (rest := []) ⟨hx, hb, hml, hown, hts⟩ (c_X9_save l D ty i9 bc tx hi sl b a r x y g ss sf bd kf vr vx vy vg hst) (cwV 1 hts gL_trySave_X9_save rfl rfl rfl (by decide +kernel) ⟨Nat.le_of_ble_eq_true rfl, Nat.le_of_ble_eq_true rfl⟩) hK hX hP hD hS hA (pk (bs := [[ob bc 8 [.ref tx, .ref (a 0), .ref (b 0), .ref hi, .ref sl]], [ob sl 3 [.ref ss, .ref sf]], [sa ty ss 2 (fun k => some (bd k 0))], [za ty sf 2 kf], (stW ty a r x y g), (stW ty (bd 0) (vr 0) (vx 0) (vy 0) (vg 0)), (stW ty (bd 1) (vr 1) (vx 1) (vy 1) (vg 1))]) (bsc := [[ob bc 8 [.ref tx, .ref (a 0), .ref (b 0), .ref hi, .ref sl]], [ob sl 3 [.ref ss, .ref sf]], [sa ty ss 2 (fun k => some (bd k 0))], [za ty sf 2 kf], (stW ty a r x y g), (stW ty (bd 0) (vr 0) (vx 0) (vy 0) (vg 0)), (stW ty (bd 1) (vr 1) (vx 1) (vy 1) (vg 1))]) (bsr := []) [0, 1, 2, 3, 4, 5, 6] [] 7 rfl (by decide +kernel) rfl rfl) (ci := 8) rfl 0 rfl rfl hl.1 rfl (Nat.le_of_ble_eq_true rfl) dL_trySave_2 ⟨Nat.le_of_ble_eq_true rfl, Nat.le_of_ble_eq_true rfl⟩ (fun E hE ce q9 H locs hP hD hS hce hcv hcl => ?_) (fun r9 u9 h9 H locs hP hD hS => ?_)
  · skip
    obtain ⟨hEE, h0⟩ := hE
    exact absurd hc0 h0
  · skip
    have hP : va_P D vwCl (fl [[ob bc 8 [.ref tx, .ref (a 0), .ref (b 0), .ref hi, .ref sl]], [ob sl 3 [.ref ss, .ref sf]], [sa ty ss 2 (fun k => some (bd k 0))], [za ty sf 2 (upd kf i9.toNatClampNeg 1)], (stW ty a r x y g), (stW ty (bd 0) ((va_up vr i9.toNatClampNeg r) 0) ((va_up vx i9.toNatClampNeg x) 0) ((va_up vy i9.toNatClampNeg y) 0) ((va_up vg i9.toNatClampNeg g) 0)), (stW ty (bd 1) ((va_up vr i9.toNatClampNeg r) 1) ((va_up vx i9.toNatClampNeg x) 1) ((va_up vy i9.toNatClampNeg y) 1) ((va_up vg i9.toNatClampNeg g) 1))]) H := by rw [List.append_nil] at hP; exact hP
    have hD : va_D A (fl [[ob bc 8 [.ref tx, .ref (a 0), .ref (b 0), .ref hi, .ref sl]], [ob sl 3 [.ref ss, .ref sf]], [sa ty ss 2 (fun k => some (bd k 0))], [za ty sf 2 (upd kf i9.toNatClampNeg 1)], (stW ty a r x y g), (stW ty (bd 0) ((va_up vr i9.toNatClampNeg r) 0) ((va_up vx i9.toNatClampNeg x) 0) ((va_up vy i9.toNatClampNeg y) 0) ((va_up vg i9.toNatClampNeg g) 0)), (stW ty (bd 1) ((va_up vr i9.toNatClampNeg r) 1) ((va_up vx i9.toNatClampNeg x) 1) ((va_up vy i9.toNatClampNeg y) 1) ((va_up vg i9.toNatClampNeg g) 1))]) := by rw [List.append_nil] at hD; exact hD
    have h8 : r9 = (r 0) := h9.1
    subst h8
    have hP : va_P D vwCl (fl [[ob bc 8 [.ref tx, .ref (a 0), .ref (b 0), .ref hi, .ref sl]], [ob sl 3 [.ref ss, .ref sf]], [sa ty ss 2 (fun k => some (bd k 0))], [za ty sf 2 (upd kf i9.toNatClampNeg 1)], (stW ty a r x y g), (stW ty (bd 0) ((va_up vr i9.toNatClampNeg r) 0) ((va_up vx i9.toNatClampNeg x) 0) ((va_up vy i9.toNatClampNeg y) 0) ((va_up vg i9.toNatClampNeg g) 0)), (stW ty (bd 1) ((va_up vr i9.toNatClampNeg r) 1) ((va_up vx i9.toNatClampNeg x) 1) ((va_up vy i9.toNatClampNeg y) 1) ((va_up vg i9.toNatClampNeg g) 1))]) H := hP
    have hD : va_D A (fl [[ob bc 8 [.ref tx, .ref (a 0), .ref (b 0), .ref hi, .ref sl]], [ob sl 3 [.ref ss, .ref sf]], [sa ty ss 2 (fun k => some (bd k 0))], [za ty sf 2 (upd kf i9.toNatClampNeg 1)], (stW ty a r x y g), (stW ty (bd 0) ((va_up vr i9.toNatClampNeg r) 0) ((va_up vx i9.toNatClampNeg x) 0) ((va_up vy i9.toNatClampNeg y) 0) ((va_up vg i9.toNatClampNeg g) 0)), (stW ty (bd 1) ((va_up vr i9.toNatClampNeg r) 1) ((va_up vx i9.toNatClampNeg x) 1) ((va_up vy i9.toNatClampNeg y) 1) ((va_up vg i9.toNatClampNeg g) 1))]) := hD
    exact end_i (bs' := (fun (_ : Unit) => [[ob bc 8 [.ref tx, .ref (a 0), .ref (b 0), .ref hi, .ref sl]], [ob sl 3 [.ref ss, .ref sf]], [sa ty ss 2 (fun k => some (bd k 0))], [za ty sf 2 (upd kf i9.toNatClampNeg 1)], (stW ty a r x y g), (stW ty (bd 0) ((va_up vr i9.toNatClampNeg r) 0) ((va_up vx i9.toNatClampNeg x) 0) ((va_up vy i9.toNatClampNeg y) 0) ((va_up vg i9.toNatClampNeg g) 0)), (stW ty (bd 1) ((va_up vr i9.toNatClampNeg r) 1) ((va_up vx i9.toNatClampNeg x) 1) ((va_up vy i9.toNatClampNeg y) 1) ((va_up vg i9.toNatClampNeg g) 1))])) () hx hb hr hlocks hP hD hS (by first | rfl | decide | simp []) (Nat.le_of_ble_eq_true rfl) (Nat.le_of_ble_eq_true rfl) dL_trySave_5
set_option maxHeartbeats 4000000 in
set_option maxRecDepth 100000 in
theorem c_T_save_n0 (l : Launch) (D : va_G) (ty : Nat → ClassId) (i9 : Int32) (bc tx hi sl : Nat) (b : Nat → Nat) (a : Nat → Nat) (r : Nat → Int32) (x y : Int64) (g : Nat → Nat → Int32) (ss sf : Nat) (bd : Nat → Nat → Nat) (kf : Nat → Int32) (vr : Nat → Nat → Int32) (vx vy : Nat → Int64) (vg : Nat → Nat → Nat → Int32) (hst : l.stackTraces = false) (hc0 : ¬ (inI i9 2)) : CTi l yL_trySave wsL_trySave ({ frames := 8, cells := 1, slots := 6, locals := 124 }) D ty [.ref bc, .int i9] [[ob bc 8 [.ref tx, .ref (a 0), .ref (b 0), .ref hi, .ref sl]], [ob sl 3 [.ref ss, .ref sf]], [sa ty ss 2 (fun k => some (bd k 0))], [za ty sf 2 kf], (stW ty a r x y g), (stW ty (bd 0) (vr 0) (vx 0) (vy 0) (vg 0)), (stW ty (bd 1) (vr 1) (vx 1) (vy 1) (vg 1))] (fun (RET : Int32) (_ : Unit) => RET = (-999999001)) (fun (_ : Unit) => [[ob bc 8 [.ref tx, .ref (a 0), .ref (b 0), .ref hi, .ref sl]], [ob sl 3 [.ref ss, .ref sf]], [sa ty ss 2 (fun k => some (bd k 0))], [za ty sf 2 kf], (stW ty a r x y g), (stW ty (bd 0) (vr 0) (vx 0) (vy 0) (vg 0)), (stW ty (bd 1) (vr 1) (vx 1) (vy 1) (vg 1))]) := by
  refine CTi_ofH cL_trySave 3 (some .int) [(0, 5, 6, 29)] (by decide) rfl (Nat.le_of_ble_eq_true rfl) ?_
  intro p e s m args below meth c A hx hb hr hml hown hlocks hin hts hA hX hK hP hD ht0 ls hl
  have hown : s.vm.findClass RL = some m.cls := hown
  have hS : va_S A s.heap s.heap [] := va_S.rf
  have hl : lv_has ls 3 [(0, .ref bc), (1, .int i9)] := hl
  refine lv_aload_n hx hb dL_trySave_0 rfl (lv_at hl 0 rfl) ?_
  refine lv_iload_n hx hb dL_trySave_1 rfl (lv_at hl 1 rfl) ?_
  refine cVxi (As := [.int i9]) (rest := []) ⟨hx, hb, hml, hown, hts⟩ (c_X9_save l D ty i9 bc tx hi sl b a r x y g ss sf bd kf vr vx vy vg hst) (cwV 1 hts gL_trySave_X9_save rfl rfl rfl (by decide +kernel) ⟨Nat.le_of_ble_eq_true rfl, Nat.le_of_ble_eq_true rfl⟩) hK hX hP hD hS hA (pk (bs := [[ob bc 8 [.ref tx, .ref (a 0), .ref (b 0), .ref hi, .ref sl]], [ob sl 3 [.ref ss, .ref sf]], [sa ty ss 2 (fun k => some (bd k 0))], [za ty sf 2 kf], (stW ty a r x y g), (stW ty (bd 0) (vr 0) (vx 0) (vy 0) (vg 0)), (stW ty (bd 1) (vr 1) (vx 1) (vy 1) (vg 1))]) (bsc := [[ob bc 8 [.ref tx, .ref (a 0), .ref (b 0), .ref hi, .ref sl]], [ob sl 3 [.ref ss, .ref sf]], [sa ty ss 2 (fun k => some (bd k 0))], [za ty sf 2 kf], (stW ty a r x y g), (stW ty (bd 0) (vr 0) (vx 0) (vy 0) (vg 0)), (stW ty (bd 1) (vr 1) (vx 1) (vy 1) (vg 1))]) (bsr := []) [0, 1, 2, 3, 4, 5, 6] [] 7 rfl (by decide +kernel) rfl rfl) (ci := 8) rfl 0 rfl rfl hl.1 rfl (Nat.le_of_ble_eq_true rfl) dL_trySave_2 ⟨Nat.le_of_ble_eq_true rfl, Nat.le_of_ble_eq_true rfl⟩ (fun E hE ce q9 H locs hP hD hS hce hcv hcl => ?_) (fun r9 u9 h9 H locs hP hD hS => ?_)
  · skip
    obtain ⟨hEE, h0⟩ := hE
    subst hEE
    have hP : va_P D vwCl (fl [[ob bc 8 [.ref tx, .ref (a 0), .ref (b 0), .ref hi, .ref sl]], [ob sl 3 [.ref ss, .ref sf]], [sa ty ss 2 (fun k => some (bd k 0))], [za ty sf 2 kf], (stW ty a r x y g), (stW ty (bd 0) (vr 0) (vx 0) (vy 0) (vg 0)), (stW ty (bd 1) (vr 1) (vx 1) (vy 1) (vg 1))]) H := by rw [List.append_nil] at hP; exact hP
    have hD : va_D A (fl [[ob bc 8 [.ref tx, .ref (a 0), .ref (b 0), .ref hi, .ref sl]], [ob sl 3 [.ref ss, .ref sf]], [sa ty ss 2 (fun k => some (bd k 0))], [za ty sf 2 kf], (stW ty a r x y g), (stW ty (bd 0) (vr 0) (vx 0) (vy 0) (vg 0)), (stW ty (bd 1) (vr 1) (vx 1) (vy 1) (vg 1))]) := by rw [List.append_nil] at hD; exact hD
    refine vx_catch (own := RL) (name := EIO) (E := EIO) hown [] ⟨0, 5, 6, 29⟩ [] (ht0.trans rfl) (fun z hz => by cases hz) (by decide) (by decide) (hts (Cond.classLink RL 29 "java/lang/IndexOutOfBoundsException") (List.mem_of_getElem? (i := 1) rfl)) (va_Nw.use rfl hX.1.2.2.1.2.2) hce hcv hcl ?_
    refine lv_astore_n (lv' := [(2, .ref q9), (0, .ref bc), (1, .int i9)]) hx hb dL_trySave_6 rfl hl (by decide) rfl (fun ls hl => ?_)
    refine lv_ldc hx hb hown (hts (Cond.constant RL 31 (-999999001)) (List.mem_of_getElem? (i := 2) rfl)) dL_trySave_7 ?_
    have hP : va_P D vwCl (fl [[ob bc 8 [.ref tx, .ref (a 0), .ref (b 0), .ref hi, .ref sl]], [ob sl 3 [.ref ss, .ref sf]], [sa ty ss 2 (fun k => some (bd k 0))], [za ty sf 2 kf], (stW ty a r x y g), (stW ty (bd 0) (vr 0) (vx 0) (vy 0) (vg 0)), (stW ty (bd 1) (vr 1) (vx 1) (vy 1) (vg 1))]) H := hP
    have hD : va_D A (fl [[ob bc 8 [.ref tx, .ref (a 0), .ref (b 0), .ref hi, .ref sl]], [ob sl 3 [.ref ss, .ref sf]], [sa ty ss 2 (fun k => some (bd k 0))], [za ty sf 2 kf], (stW ty a r x y g), (stW ty (bd 0) (vr 0) (vx 0) (vy 0) (vg 0)), (stW ty (bd 1) (vr 1) (vx 1) (vy 1) (vg 1))]) := hD
    exact end_i (bs' := (fun (_ : Unit) => [[ob bc 8 [.ref tx, .ref (a 0), .ref (b 0), .ref hi, .ref sl]], [ob sl 3 [.ref ss, .ref sf]], [sa ty ss 2 (fun k => some (bd k 0))], [za ty sf 2 kf], (stW ty a r x y g), (stW ty (bd 0) (vr 0) (vx 0) (vy 0) (vg 0)), (stW ty (bd 1) (vr 1) (vx 1) (vy 1) (vg 1))])) () hx hb hr hlocks hP hD hS (by first | rfl | decide | simp []) (Nat.le_of_ble_eq_true rfl) (Nat.le_of_ble_eq_true rfl) dL_trySave_9
  · exact absurd h9.2 hc0
set_option maxHeartbeats 4000000 in
set_option maxRecDepth 100000 in
theorem c_T_restore (l : Launch) (D : va_G) (ty : Nat → ClassId) (i9 : Int32) (bc tx hi sl : Nat) (b : Nat → Nat) (a : Nat → Nat) (r : Nat → Int32) (x y : Int64) (g : Nat → Nat → Int32) (hs : Nat) (cv : Int32) (ss sf : Nat) (bd : Nat → Nat → Nat) (kf : Nat → Int32) (vr : Nat → Nat → Int32) (vx vy : Nat → Int64) (vg : Nat → Nat → Nat → Int32) (hst : l.stackTraces = false) (hc0 : inI i9 2) (hc1 : ¬ kf i9.toNatClampNeg = 0) : CTi l yL_tryRestore wsL_tryRestore ({ frames := 8, cells := 2, slots := 12, locals := 124 }) D ty [.ref bc, .int i9] [[ob bc 8 [.ref tx, .ref (a 0), .ref (b 0), .ref hi, .ref sl]], [ob hi 2 [.ref hs, .int cv]], [ob sl 3 [.ref ss, .ref sf]], [sa ty ss 2 (fun k => some (bd k 0))], [za ty sf 2 kf], (stW ty a r x y g), (stW ty (bd 0) (vr 0) (vx 0) (vy 0) (vg 0)), (stW ty (bd 1) (vr 1) (vx 1) (vy 1) (vg 1))] (fun (RET : Int32) (_ : Unit) => RET = (vr i9.toNatClampNeg 0)) (fun (_ : Unit) => [[ob bc 8 [.ref tx, .ref (a 0), .ref (b 0), .ref hi, .ref sl]], [ob hi 2 [.ref hs, .int 0]], [ob sl 3 [.ref ss, .ref sf]], [sa ty ss 2 (fun k => some (bd k 0))], [za ty sf 2 kf], (stW ty a (vr i9.toNatClampNeg) (vx i9.toNatClampNeg) (vy i9.toNatClampNeg) (vg i9.toNatClampNeg)), (stW ty (bd 0) (vr 0) (vx 0) (vy 0) (vg 0)), (stW ty (bd 1) (vr 1) (vx 1) (vy 1) (vg 1))]) := by
  refine CTi_ofH cL_tryRestore 3 (some .int) [(0, 5, 6, 29), (0, 5, 10, 16)] (by decide) rfl (Nat.le_of_ble_eq_true rfl) ?_
  intro p e s m args below meth c A hx hb hr hml hown hlocks hin hts hA hX hK hP hD ht0 ls hl
  have hown : s.vm.findClass RL = some m.cls := hown
  have hS : va_S A s.heap s.heap [] := va_S.rf
  have hl : lv_has ls 3 [(0, .ref bc), (1, .int i9)] := hl
  refine lv_aload_n hx hb dL_tryRestore_0 rfl (lv_at hl 0 rfl) ?_
  refine lv_iload_n hx hb dL_tryRestore_1 rfl (lv_at hl 1 rfl) ?_
  refine cVxi (As := [.int i9]) (rest := []) ⟨hx, hb, hml, hown, hts⟩ (c_X9_restore l D ty i9 bc tx hi sl b a r x y g hs cv ss sf bd kf vr vx vy vg hst) (cwV 1 hts gL_tryRestore_X9_restore rfl rfl rfl (by decide +kernel) ⟨Nat.le_of_ble_eq_true rfl, Nat.le_of_ble_eq_true rfl⟩) hK hX hP hD hS hA (pk (bs := [[ob bc 8 [.ref tx, .ref (a 0), .ref (b 0), .ref hi, .ref sl]], [ob hi 2 [.ref hs, .int cv]], [ob sl 3 [.ref ss, .ref sf]], [sa ty ss 2 (fun k => some (bd k 0))], [za ty sf 2 kf], (stW ty a r x y g), (stW ty (bd 0) (vr 0) (vx 0) (vy 0) (vg 0)), (stW ty (bd 1) (vr 1) (vx 1) (vy 1) (vg 1))]) (bsc := [[ob bc 8 [.ref tx, .ref (a 0), .ref (b 0), .ref hi, .ref sl]], [ob hi 2 [.ref hs, .int cv]], [ob sl 3 [.ref ss, .ref sf]], [sa ty ss 2 (fun k => some (bd k 0))], [za ty sf 2 kf], (stW ty a r x y g), (stW ty (bd 0) (vr 0) (vx 0) (vy 0) (vg 0)), (stW ty (bd 1) (vr 1) (vx 1) (vy 1) (vg 1))]) (bsr := []) [0, 1, 2, 3, 4, 5, 6, 7] [] 8 rfl (by decide +kernel) rfl rfl) (ci := 8) rfl 0 rfl rfl hl.1 rfl (Nat.le_of_ble_eq_true rfl) dL_tryRestore_2 ⟨Nat.le_of_ble_eq_true rfl, Nat.le_of_ble_eq_true rfl⟩ (fun E hE ce q9 H locs hP hD hS hce hcv hcl => ?_) (fun r9 u9 h9 H locs hP hD hS => ?_)
  · skip
    rcases hE with ⟨hEE, h0⟩ | ⟨hEE, k0, h1⟩
    · skip
      exact absurd hc0 h0
    · skip
      exact absurd hc1 h1
  · skip
    have hP : va_P D vwCl (fl [[ob bc 8 [.ref tx, .ref (a 0), .ref (b 0), .ref hi, .ref sl]], [ob hi 2 [.ref hs, .int 0]], [ob sl 3 [.ref ss, .ref sf]], [sa ty ss 2 (fun k => some (bd k 0))], [za ty sf 2 kf], (stW ty a (vr i9.toNatClampNeg) (vx i9.toNatClampNeg) (vy i9.toNatClampNeg) (vg i9.toNatClampNeg)), (stW ty (bd 0) (vr 0) (vx 0) (vy 0) (vg 0)), (stW ty (bd 1) (vr 1) (vx 1) (vy 1) (vg 1))]) H := by rw [List.append_nil] at hP; exact hP
    have hD : va_D A (fl [[ob bc 8 [.ref tx, .ref (a 0), .ref (b 0), .ref hi, .ref sl]], [ob hi 2 [.ref hs, .int 0]], [ob sl 3 [.ref ss, .ref sf]], [sa ty ss 2 (fun k => some (bd k 0))], [za ty sf 2 kf], (stW ty a (vr i9.toNatClampNeg) (vx i9.toNatClampNeg) (vy i9.toNatClampNeg) (vg i9.toNatClampNeg)), (stW ty (bd 0) (vr 0) (vx 0) (vy 0) (vg 0)), (stW ty (bd 1) (vr 1) (vx 1) (vy 1) (vg 1))]) := by rw [List.append_nil] at hD; exact hD
    have h8 : r9 = (vr i9.toNatClampNeg 0) := h9.1
    subst h8
    have hP : va_P D vwCl (fl [[ob bc 8 [.ref tx, .ref (a 0), .ref (b 0), .ref hi, .ref sl]], [ob hi 2 [.ref hs, .int 0]], [ob sl 3 [.ref ss, .ref sf]], [sa ty ss 2 (fun k => some (bd k 0))], [za ty sf 2 kf], (stW ty a (vr i9.toNatClampNeg) (vx i9.toNatClampNeg) (vy i9.toNatClampNeg) (vg i9.toNatClampNeg)), (stW ty (bd 0) (vr 0) (vx 0) (vy 0) (vg 0)), (stW ty (bd 1) (vr 1) (vx 1) (vy 1) (vg 1))]) H := hP
    have hD : va_D A (fl [[ob bc 8 [.ref tx, .ref (a 0), .ref (b 0), .ref hi, .ref sl]], [ob hi 2 [.ref hs, .int 0]], [ob sl 3 [.ref ss, .ref sf]], [sa ty ss 2 (fun k => some (bd k 0))], [za ty sf 2 kf], (stW ty a (vr i9.toNatClampNeg) (vx i9.toNatClampNeg) (vy i9.toNatClampNeg) (vg i9.toNatClampNeg)), (stW ty (bd 0) (vr 0) (vx 0) (vy 0) (vg 0)), (stW ty (bd 1) (vr 1) (vx 1) (vy 1) (vg 1))]) := hD
    exact end_i (bs' := (fun (_ : Unit) => [[ob bc 8 [.ref tx, .ref (a 0), .ref (b 0), .ref hi, .ref sl]], [ob hi 2 [.ref hs, .int 0]], [ob sl 3 [.ref ss, .ref sf]], [sa ty ss 2 (fun k => some (bd k 0))], [za ty sf 2 kf], (stW ty a (vr i9.toNatClampNeg) (vx i9.toNatClampNeg) (vy i9.toNatClampNeg) (vg i9.toNatClampNeg)), (stW ty (bd 0) (vr 0) (vx 0) (vy 0) (vg 0)), (stW ty (bd 1) (vr 1) (vx 1) (vy 1) (vg 1))])) () hx hb hr hlocks hP hD hS (by first | rfl | decide | simp []) (Nat.le_of_ble_eq_true rfl) (Nat.le_of_ble_eq_true rfl) dL_tryRestore_5
set_option maxHeartbeats 4000000 in
set_option maxRecDepth 100000 in
theorem c_T_restore_n0 (l : Launch) (D : va_G) (ty : Nat → ClassId) (i9 : Int32) (bc tx hi sl : Nat) (b : Nat → Nat) (a : Nat → Nat) (r : Nat → Int32) (x y : Int64) (g : Nat → Nat → Int32) (hs : Nat) (cv : Int32) (ss sf : Nat) (bd : Nat → Nat → Nat) (kf : Nat → Int32) (vr : Nat → Nat → Int32) (vx vy : Nat → Int64) (vg : Nat → Nat → Nat → Int32) (hst : l.stackTraces = false) (hc0 : ¬ (inI i9 2)) : CTi l yL_tryRestore wsL_tryRestore ({ frames := 8, cells := 2, slots := 12, locals := 124 }) D ty [.ref bc, .int i9] [[ob bc 8 [.ref tx, .ref (a 0), .ref (b 0), .ref hi, .ref sl]], [ob hi 2 [.ref hs, .int cv]], [ob sl 3 [.ref ss, .ref sf]], [sa ty ss 2 (fun k => some (bd k 0))], [za ty sf 2 kf], (stW ty a r x y g), (stW ty (bd 0) (vr 0) (vx 0) (vy 0) (vg 0)), (stW ty (bd 1) (vr 1) (vx 1) (vy 1) (vg 1))] (fun (RET : Int32) (_ : Unit) => RET = (-999999001)) (fun (_ : Unit) => [[ob bc 8 [.ref tx, .ref (a 0), .ref (b 0), .ref hi, .ref sl]], [ob hi 2 [.ref hs, .int cv]], [ob sl 3 [.ref ss, .ref sf]], [sa ty ss 2 (fun k => some (bd k 0))], [za ty sf 2 kf], (stW ty a r x y g), (stW ty (bd 0) (vr 0) (vx 0) (vy 0) (vg 0)), (stW ty (bd 1) (vr 1) (vx 1) (vy 1) (vg 1))]) := by
  refine CTi_ofH cL_tryRestore 3 (some .int) [(0, 5, 6, 29), (0, 5, 10, 16)] (by decide) rfl (Nat.le_of_ble_eq_true rfl) ?_
  intro p e s m args below meth c A hx hb hr hml hown hlocks hin hts hA hX hK hP hD ht0 ls hl
  have hown : s.vm.findClass RL = some m.cls := hown
  have hS : va_S A s.heap s.heap [] := va_S.rf
  have hl : lv_has ls 3 [(0, .ref bc), (1, .int i9)] := hl
  refine lv_aload_n hx hb dL_tryRestore_0 rfl (lv_at hl 0 rfl) ?_
  refine lv_iload_n hx hb dL_tryRestore_1 rfl (lv_at hl 1 rfl) ?_
  refine cVxi (As := [.int i9]) (rest := []) ⟨hx, hb, hml, hown, hts⟩ (c_X9_restore l D ty i9 bc tx hi sl b a r x y g hs cv ss sf bd kf vr vx vy vg hst) (cwV 1 hts gL_tryRestore_X9_restore rfl rfl rfl (by decide +kernel) ⟨Nat.le_of_ble_eq_true rfl, Nat.le_of_ble_eq_true rfl⟩) hK hX hP hD hS hA (pk (bs := [[ob bc 8 [.ref tx, .ref (a 0), .ref (b 0), .ref hi, .ref sl]], [ob hi 2 [.ref hs, .int cv]], [ob sl 3 [.ref ss, .ref sf]], [sa ty ss 2 (fun k => some (bd k 0))], [za ty sf 2 kf], (stW ty a r x y g), (stW ty (bd 0) (vr 0) (vx 0) (vy 0) (vg 0)), (stW ty (bd 1) (vr 1) (vx 1) (vy 1) (vg 1))]) (bsc := [[ob bc 8 [.ref tx, .ref (a 0), .ref (b 0), .ref hi, .ref sl]], [ob hi 2 [.ref hs, .int cv]], [ob sl 3 [.ref ss, .ref sf]], [sa ty ss 2 (fun k => some (bd k 0))], [za ty sf 2 kf], (stW ty a r x y g), (stW ty (bd 0) (vr 0) (vx 0) (vy 0) (vg 0)), (stW ty (bd 1) (vr 1) (vx 1) (vy 1) (vg 1))]) (bsr := []) [0, 1, 2, 3, 4, 5, 6, 7] [] 8 rfl (by decide +kernel) rfl rfl) (ci := 8) rfl 0 rfl rfl hl.1 rfl (Nat.le_of_ble_eq_true rfl) dL_tryRestore_2 ⟨Nat.le_of_ble_eq_true rfl, Nat.le_of_ble_eq_true rfl⟩ (fun E hE ce q9 H locs hP hD hS hce hcv hcl => ?_) (fun r9 u9 h9 H locs hP hD hS => ?_)
  · skip
    rcases hE with ⟨hEE, h0⟩ | ⟨hEE, k0, h1⟩
    · skip
      subst hEE
      have hP : va_P D vwCl (fl [[ob bc 8 [.ref tx, .ref (a 0), .ref (b 0), .ref hi, .ref sl]], [ob hi 2 [.ref hs, .int cv]], [ob sl 3 [.ref ss, .ref sf]], [sa ty ss 2 (fun k => some (bd k 0))], [za ty sf 2 kf], (stW ty a r x y g), (stW ty (bd 0) (vr 0) (vx 0) (vy 0) (vg 0)), (stW ty (bd 1) (vr 1) (vx 1) (vy 1) (vg 1))]) H := by rw [List.append_nil] at hP; exact hP
      have hD : va_D A (fl [[ob bc 8 [.ref tx, .ref (a 0), .ref (b 0), .ref hi, .ref sl]], [ob hi 2 [.ref hs, .int cv]], [ob sl 3 [.ref ss, .ref sf]], [sa ty ss 2 (fun k => some (bd k 0))], [za ty sf 2 kf], (stW ty a r x y g), (stW ty (bd 0) (vr 0) (vx 0) (vy 0) (vg 0)), (stW ty (bd 1) (vr 1) (vx 1) (vy 1) (vg 1))]) := by rw [List.append_nil] at hD; exact hD
      refine vx_catch (own := RL) (name := EIO) (E := EIO) hown [] ⟨0, 5, 6, 29⟩ [⟨0, 5, 10, 16⟩] (ht0.trans rfl) (fun z hz => by cases hz) (by decide) (by decide) (hts (Cond.classLink RL 29 "java/lang/IndexOutOfBoundsException") (List.mem_of_getElem? (i := 1) rfl)) (va_Nw.use rfl hX.1.2.2.1.2.2) hce hcv hcl ?_
      refine lv_astore_n (lv' := [(2, .ref q9), (0, .ref bc), (1, .int i9)]) hx hb dL_tryRestore_6 rfl hl (by decide) rfl (fun ls hl => ?_)
      refine lv_ldc hx hb hown (hts (Cond.constant RL 31 (-999999001)) (List.mem_of_getElem? (i := 3) rfl)) dL_tryRestore_7 ?_
      have hP : va_P D vwCl (fl [[ob bc 8 [.ref tx, .ref (a 0), .ref (b 0), .ref hi, .ref sl]], [ob hi 2 [.ref hs, .int cv]], [ob sl 3 [.ref ss, .ref sf]], [sa ty ss 2 (fun k => some (bd k 0))], [za ty sf 2 kf], (stW ty a r x y g), (stW ty (bd 0) (vr 0) (vx 0) (vy 0) (vg 0)), (stW ty (bd 1) (vr 1) (vx 1) (vy 1) (vg 1))]) H := hP
      have hD : va_D A (fl [[ob bc 8 [.ref tx, .ref (a 0), .ref (b 0), .ref hi, .ref sl]], [ob hi 2 [.ref hs, .int cv]], [ob sl 3 [.ref ss, .ref sf]], [sa ty ss 2 (fun k => some (bd k 0))], [za ty sf 2 kf], (stW ty a r x y g), (stW ty (bd 0) (vr 0) (vx 0) (vy 0) (vg 0)), (stW ty (bd 1) (vr 1) (vx 1) (vy 1) (vg 1))]) := hD
      exact end_i (bs' := (fun (_ : Unit) => [[ob bc 8 [.ref tx, .ref (a 0), .ref (b 0), .ref hi, .ref sl]], [ob hi 2 [.ref hs, .int cv]], [ob sl 3 [.ref ss, .ref sf]], [sa ty ss 2 (fun k => some (bd k 0))], [za ty sf 2 kf], (stW ty a r x y g), (stW ty (bd 0) (vr 0) (vx 0) (vy 0) (vg 0)), (stW ty (bd 1) (vr 1) (vx 1) (vy 1) (vg 1))])) () hx hb hr hlocks hP hD hS (by first | rfl | decide | simp []) (Nat.le_of_ble_eq_true rfl) (Nat.le_of_ble_eq_true rfl) dL_tryRestore_9
    · skip
      exact absurd k0 hc0
  · exact absurd h9.2.1 hc0
set_option maxHeartbeats 4000000 in
set_option maxRecDepth 100000 in
theorem c_T_restore_n1 (l : Launch) (D : va_G) (ty : Nat → ClassId) (i9 : Int32) (bc tx hi sl : Nat) (b : Nat → Nat) (a : Nat → Nat) (r : Nat → Int32) (x y : Int64) (g : Nat → Nat → Int32) (hs : Nat) (cv : Int32) (ss sf : Nat) (bd : Nat → Nat → Nat) (kf : Nat → Int32) (vr : Nat → Nat → Int32) (vx vy : Nat → Int64) (vg : Nat → Nat → Nat → Int32) (hst : l.stackTraces = false) (hc0 : inI i9 2) (hc1 : ¬ (¬ kf i9.toNatClampNeg = 0)) : CTi l yL_tryRestore wsL_tryRestore ({ frames := 8, cells := 2, slots := 12, locals := 124 }) D ty [.ref bc, .int i9] [[ob bc 8 [.ref tx, .ref (a 0), .ref (b 0), .ref hi, .ref sl]], [ob hi 2 [.ref hs, .int cv]], [ob sl 3 [.ref ss, .ref sf]], [sa ty ss 2 (fun k => some (bd k 0))], [za ty sf 2 kf], (stW ty a r x y g), (stW ty (bd 0) (vr 0) (vx 0) (vy 0) (vg 0)), (stW ty (bd 1) (vr 1) (vx 1) (vy 1) (vg 1))] (fun (RET : Int32) (_ : Unit) => RET = (-999999003)) (fun (_ : Unit) => [[ob bc 8 [.ref tx, .ref (a 0), .ref (b 0), .ref hi, .ref sl]], [ob hi 2 [.ref hs, .int cv]], [ob sl 3 [.ref ss, .ref sf]], [sa ty ss 2 (fun k => some (bd k 0))], [za ty sf 2 kf], (stW ty a r x y g), (stW ty (bd 0) (vr 0) (vx 0) (vy 0) (vg 0)), (stW ty (bd 1) (vr 1) (vx 1) (vy 1) (vg 1))]) := by
  refine CTi_ofH cL_tryRestore 3 (some .int) [(0, 5, 6, 29), (0, 5, 10, 16)] (by decide) rfl (Nat.le_of_ble_eq_true rfl) ?_
  intro p e s m args below meth c A hx hb hr hml hown hlocks hin hts hA hX hK hP hD ht0 ls hl
  have hown : s.vm.findClass RL = some m.cls := hown
  have hS : va_S A s.heap s.heap [] := va_S.rf
  have hl : lv_has ls 3 [(0, .ref bc), (1, .int i9)] := hl
  refine lv_aload_n hx hb dL_tryRestore_0 rfl (lv_at hl 0 rfl) ?_
  refine lv_iload_n hx hb dL_tryRestore_1 rfl (lv_at hl 1 rfl) ?_
  refine cVxi (As := [.int i9]) (rest := []) ⟨hx, hb, hml, hown, hts⟩ (c_X9_restore l D ty i9 bc tx hi sl b a r x y g hs cv ss sf bd kf vr vx vy vg hst) (cwV 1 hts gL_tryRestore_X9_restore rfl rfl rfl (by decide +kernel) ⟨Nat.le_of_ble_eq_true rfl, Nat.le_of_ble_eq_true rfl⟩) hK hX hP hD hS hA (pk (bs := [[ob bc 8 [.ref tx, .ref (a 0), .ref (b 0), .ref hi, .ref sl]], [ob hi 2 [.ref hs, .int cv]], [ob sl 3 [.ref ss, .ref sf]], [sa ty ss 2 (fun k => some (bd k 0))], [za ty sf 2 kf], (stW ty a r x y g), (stW ty (bd 0) (vr 0) (vx 0) (vy 0) (vg 0)), (stW ty (bd 1) (vr 1) (vx 1) (vy 1) (vg 1))]) (bsc := [[ob bc 8 [.ref tx, .ref (a 0), .ref (b 0), .ref hi, .ref sl]], [ob hi 2 [.ref hs, .int cv]], [ob sl 3 [.ref ss, .ref sf]], [sa ty ss 2 (fun k => some (bd k 0))], [za ty sf 2 kf], (stW ty a r x y g), (stW ty (bd 0) (vr 0) (vx 0) (vy 0) (vg 0)), (stW ty (bd 1) (vr 1) (vx 1) (vy 1) (vg 1))]) (bsr := []) [0, 1, 2, 3, 4, 5, 6, 7] [] 8 rfl (by decide +kernel) rfl rfl) (ci := 8) rfl 0 rfl rfl hl.1 rfl (Nat.le_of_ble_eq_true rfl) dL_tryRestore_2 ⟨Nat.le_of_ble_eq_true rfl, Nat.le_of_ble_eq_true rfl⟩ (fun E hE ce q9 H locs hP hD hS hce hcv hcl => ?_) (fun r9 u9 h9 H locs hP hD hS => ?_)
  · skip
    rcases hE with ⟨hEE, h0⟩ | ⟨hEE, k0, h1⟩
    · skip
      exact absurd hc0 h0
    · skip
      subst hEE
      have hP : va_P D vwCl (fl [[ob bc 8 [.ref tx, .ref (a 0), .ref (b 0), .ref hi, .ref sl]], [ob hi 2 [.ref hs, .int cv]], [ob sl 3 [.ref ss, .ref sf]], [sa ty ss 2 (fun k => some (bd k 0))], [za ty sf 2 kf], (stW ty a r x y g), (stW ty (bd 0) (vr 0) (vx 0) (vy 0) (vg 0)), (stW ty (bd 1) (vr 1) (vx 1) (vy 1) (vg 1))]) H := by rw [List.append_nil] at hP; exact hP
      have hD : va_D A (fl [[ob bc 8 [.ref tx, .ref (a 0), .ref (b 0), .ref hi, .ref sl]], [ob hi 2 [.ref hs, .int cv]], [ob sl 3 [.ref ss, .ref sf]], [sa ty ss 2 (fun k => some (bd k 0))], [za ty sf 2 kf], (stW ty a r x y g), (stW ty (bd 0) (vr 0) (vx 0) (vy 0) (vg 0)), (stW ty (bd 1) (vr 1) (vx 1) (vy 1) (vg 1))]) := by rw [List.append_nil] at hD; exact hD
      refine vx_catch (own := RL) (name := EIS) (E := EIS) hown [⟨0, 5, 6, 29⟩] ⟨0, 5, 10, 16⟩ [] (ht0.trans rfl) (List.forall_mem_cons.mpr ⟨Or.inr ⟨by decide, _, (hts (Cond.classLink RL 29 "java/lang/IndexOutOfBoundsException") (List.mem_of_getElem? (i := 1) rfl)), hX.1.2.2.2.1.1.2.2.2.1⟩, (fun z hz => absurd hz List.not_mem_nil)⟩) (by decide) (by decide) (hts (Cond.classLink RL 16 "java/lang/IllegalStateException") (List.mem_of_getElem? (i := 2) rfl)) (va_Nw.use rfl hX.1.2.2.1.2.1) hce hcv hcl ?_
      refine lv_astore_n (lv' := [(2, .ref q9), (0, .ref bc), (1, .int i9)]) hx hb dL_tryRestore_10 rfl hl (by decide) rfl (fun ls hl => ?_)
      refine lv_ldc hx hb hown (hts (Cond.constant RL 18 (-999999003)) (List.mem_of_getElem? (i := 4) rfl)) dL_tryRestore_11 ?_
      have hP : va_P D vwCl (fl [[ob bc 8 [.ref tx, .ref (a 0), .ref (b 0), .ref hi, .ref sl]], [ob hi 2 [.ref hs, .int cv]], [ob sl 3 [.ref ss, .ref sf]], [sa ty ss 2 (fun k => some (bd k 0))], [za ty sf 2 kf], (stW ty a r x y g), (stW ty (bd 0) (vr 0) (vx 0) (vy 0) (vg 0)), (stW ty (bd 1) (vr 1) (vx 1) (vy 1) (vg 1))]) H := hP
      have hD : va_D A (fl [[ob bc 8 [.ref tx, .ref (a 0), .ref (b 0), .ref hi, .ref sl]], [ob hi 2 [.ref hs, .int cv]], [ob sl 3 [.ref ss, .ref sf]], [sa ty ss 2 (fun k => some (bd k 0))], [za ty sf 2 kf], (stW ty a r x y g), (stW ty (bd 0) (vr 0) (vx 0) (vy 0) (vg 0)), (stW ty (bd 1) (vr 1) (vx 1) (vy 1) (vg 1))]) := hD
      exact end_i (bs' := (fun (_ : Unit) => [[ob bc 8 [.ref tx, .ref (a 0), .ref (b 0), .ref hi, .ref sl]], [ob hi 2 [.ref hs, .int cv]], [ob sl 3 [.ref ss, .ref sf]], [sa ty ss 2 (fun k => some (bd k 0))], [za ty sf 2 kf], (stW ty a r x y g), (stW ty (bd 0) (vr 0) (vx 0) (vy 0) (vg 0)), (stW ty (bd 1) (vr 1) (vx 1) (vy 1) (vg 1))])) () hx hb hr hlocks hP hD hS (by first | rfl | decide | simp []) (Nat.le_of_ble_eq_true rfl) (Nat.le_of_ble_eq_true rfl) dL_tryRestore_13
  · exact absurd h9.2.2 hc1
set_option maxHeartbeats 4000000 in
set_option maxRecDepth 100000 in
theorem c_T_bestCorrection (l : Launch) (D : va_G) (ty : Nat → ClassId) (v9 : Int32) (bc tx hi sl : Nat) (b : Nat → Nat) (a : Nat → Nat) (r : Nat → Int32) (x y : Int64) (g : Nat → Nat → Int32) (hst : l.stackTraces = false) (hc0 : inR v9 1 600) : CTi l yL_tryBestCorrection wsL_tryBestCorrection ({ frames := 8, cells := 1, slots := 6, locals := 127 }) D ty [.ref bc, .int v9] [[ob bc 8 [.ref tx, .ref (a 0), .ref (b 0), .ref hi, .ref sl]], (stW ty a r x y g)] (fun (RET : Int32) (_ : Unit) => RET = (if deadW v9 r = 0 then bestL v9 r 500 1 0 else 0)) (fun (_ : Unit) => [[ob bc 8 [.ref tx, .ref (a 0), .ref (b 0), .ref hi, .ref sl]], (stW ty a r x y g)]) := by
  refine CTi_ofH cL_tryBestCorrection 3 (some .int) [(0, 5, 6, 13)] (by decide) rfl (Nat.le_of_ble_eq_true rfl) ?_
  intro p e s m args below meth c A hx hb hr hml hown hlocks hin hts hA hX hK hP hD ht0 ls hl
  have hown : s.vm.findClass RL = some m.cls := hown
  have hS : va_S A s.heap s.heap [] := va_S.rf
  have hl : lv_has ls 3 [(0, .ref bc), (1, .int v9)] := hl
  refine lv_aload_n hx hb dL_tryBestCorrection_0 rfl (lv_at hl 0 rfl) ?_
  refine lv_iload_n hx hb dL_tryBestCorrection_1 rfl (lv_at hl 1 rfl) ?_
  refine cVxi (As := [.int v9]) (rest := []) ⟨hx, hb, hml, hown, hts⟩ (c_X9_bestCorrection l D ty v9 bc tx hi sl b a r x y g hst) (cwV 1 hts gL_tryBestCorrection_X9_bestCorrection rfl rfl rfl (by decide +kernel) ⟨Nat.le_of_ble_eq_true rfl, Nat.le_of_ble_eq_true rfl⟩) hK hX hP hD hS hA (pk (bs := [[ob bc 8 [.ref tx, .ref (a 0), .ref (b 0), .ref hi, .ref sl]], (stW ty a r x y g)]) (bsc := [[ob bc 8 [.ref tx, .ref (a 0), .ref (b 0), .ref hi, .ref sl]], (stW ty a r x y g)]) (bsr := []) [0, 1] [] 2 rfl (by decide +kernel) rfl rfl) (ci := 8) rfl 0 rfl rfl hl.1 rfl (Nat.le_of_ble_eq_true rfl) dL_tryBestCorrection_2 ⟨Nat.le_of_ble_eq_true rfl, Nat.le_of_ble_eq_true rfl⟩ (fun E hE ce q9 H locs hP hD hS hce hcv hcl => ?_) (fun r9 u9 h9 H locs hP hD hS => ?_)
  · skip
    obtain ⟨hEE, h0⟩ := hE
    exact absurd hc0 h0
  · skip
    have hP : va_P D vwCl (fl [[ob bc 8 [.ref tx, .ref (a 0), .ref (b 0), .ref hi, .ref sl]], (stW ty a r x y g)]) H := by rw [List.append_nil] at hP; exact hP
    have hD : va_D A (fl [[ob bc 8 [.ref tx, .ref (a 0), .ref (b 0), .ref hi, .ref sl]], (stW ty a r x y g)]) := by rw [List.append_nil] at hD; exact hD
    have h8 : r9 = (if deadW v9 r = 0 then bestL v9 r 500 1 0 else 0) := h9.1
    subst h8
    have hP : va_P D vwCl (fl [[ob bc 8 [.ref tx, .ref (a 0), .ref (b 0), .ref hi, .ref sl]], (stW ty a r x y g)]) H := hP
    have hD : va_D A (fl [[ob bc 8 [.ref tx, .ref (a 0), .ref (b 0), .ref hi, .ref sl]], (stW ty a r x y g)]) := hD
    exact end_i (bs' := (fun (_ : Unit) => [[ob bc 8 [.ref tx, .ref (a 0), .ref (b 0), .ref hi, .ref sl]], (stW ty a r x y g)])) () hx hb hr hlocks hP hD hS (by first | rfl | decide | simp []) (Nat.le_of_ble_eq_true rfl) (Nat.le_of_ble_eq_true rfl) dL_tryBestCorrection_5
set_option maxHeartbeats 4000000 in
set_option maxRecDepth 100000 in
theorem c_T_bestCorrection_n0 (l : Launch) (D : va_G) (ty : Nat → ClassId) (v9 : Int32) (bc tx hi sl : Nat) (b : Nat → Nat) (a : Nat → Nat) (r : Nat → Int32) (x y : Int64) (g : Nat → Nat → Int32) (hst : l.stackTraces = false) (hc0 : ¬ (inR v9 1 600)) : CTi l yL_tryBestCorrection wsL_tryBestCorrection ({ frames := 8, cells := 1, slots := 6, locals := 127 }) D ty [.ref bc, .int v9] [[ob bc 8 [.ref tx, .ref (a 0), .ref (b 0), .ref hi, .ref sl]], (stW ty a r x y g)] (fun (RET : Int32) (_ : Unit) => RET = (-999999002)) (fun (_ : Unit) => [[ob bc 8 [.ref tx, .ref (a 0), .ref (b 0), .ref hi, .ref sl]], (stW ty a r x y g)]) := by
  refine CTi_ofH cL_tryBestCorrection 3 (some .int) [(0, 5, 6, 13)] (by decide) rfl (Nat.le_of_ble_eq_true rfl) ?_
  intro p e s m args below meth c A hx hb hr hml hown hlocks hin hts hA hX hK hP hD ht0 ls hl
  have hown : s.vm.findClass RL = some m.cls := hown
  have hS : va_S A s.heap s.heap [] := va_S.rf
  have hl : lv_has ls 3 [(0, .ref bc), (1, .int v9)] := hl
  refine lv_aload_n hx hb dL_tryBestCorrection_0 rfl (lv_at hl 0 rfl) ?_
  refine lv_iload_n hx hb dL_tryBestCorrection_1 rfl (lv_at hl 1 rfl) ?_
  refine cVxi (As := [.int v9]) (rest := []) ⟨hx, hb, hml, hown, hts⟩ (c_X9_bestCorrection l D ty v9 bc tx hi sl b a r x y g hst) (cwV 1 hts gL_tryBestCorrection_X9_bestCorrection rfl rfl rfl (by decide +kernel) ⟨Nat.le_of_ble_eq_true rfl, Nat.le_of_ble_eq_true rfl⟩) hK hX hP hD hS hA (pk (bs := [[ob bc 8 [.ref tx, .ref (a 0), .ref (b 0), .ref hi, .ref sl]], (stW ty a r x y g)]) (bsc := [[ob bc 8 [.ref tx, .ref (a 0), .ref (b 0), .ref hi, .ref sl]], (stW ty a r x y g)]) (bsr := []) [0, 1] [] 2 rfl (by decide +kernel) rfl rfl) (ci := 8) rfl 0 rfl rfl hl.1 rfl (Nat.le_of_ble_eq_true rfl) dL_tryBestCorrection_2 ⟨Nat.le_of_ble_eq_true rfl, Nat.le_of_ble_eq_true rfl⟩ (fun E hE ce q9 H locs hP hD hS hce hcv hcl => ?_) (fun r9 u9 h9 H locs hP hD hS => ?_)
  · skip
    obtain ⟨hEE, h0⟩ := hE
    subst hEE
    have hP : va_P D vwCl (fl [[ob bc 8 [.ref tx, .ref (a 0), .ref (b 0), .ref hi, .ref sl]], (stW ty a r x y g)]) H := by rw [List.append_nil] at hP; exact hP
    have hD : va_D A (fl [[ob bc 8 [.ref tx, .ref (a 0), .ref (b 0), .ref hi, .ref sl]], (stW ty a r x y g)]) := by rw [List.append_nil] at hD; exact hD
    refine vx_catch (own := RL) (name := EIA) (E := EIA) hown [] ⟨0, 5, 6, 13⟩ [] (ht0.trans rfl) (fun z hz => by cases hz) (by decide) (by decide) (hts (Cond.classLink RL 13 "java/lang/IllegalArgumentException") (List.mem_of_getElem? (i := 1) rfl)) (va_Nw.use rfl hX.1.2.2.1.1) hce hcv hcl ?_
    refine lv_astore_n (lv' := [(2, .ref q9), (0, .ref bc), (1, .int v9)]) hx hb dL_tryBestCorrection_6 rfl hl (by decide) rfl (fun ls hl => ?_)
    refine lv_ldc hx hb hown (hts (Cond.constant RL 15 (-999999002)) (List.mem_of_getElem? (i := 2) rfl)) dL_tryBestCorrection_7 ?_
    have hP : va_P D vwCl (fl [[ob bc 8 [.ref tx, .ref (a 0), .ref (b 0), .ref hi, .ref sl]], (stW ty a r x y g)]) H := hP
    have hD : va_D A (fl [[ob bc 8 [.ref tx, .ref (a 0), .ref (b 0), .ref hi, .ref sl]], (stW ty a r x y g)]) := hD
    exact end_i (bs' := (fun (_ : Unit) => [[ob bc 8 [.ref tx, .ref (a 0), .ref (b 0), .ref hi, .ref sl]], (stW ty a r x y g)])) () hx hb hr hlocks hP hD hS (by first | rfl | decide | simp []) (Nat.le_of_ble_eq_true rfl) (Nat.le_of_ble_eq_true rfl) dL_tryBestCorrection_9
  · exact absurd h9.2 hc0
set_option maxHeartbeats 4000000 in
set_option maxRecDepth 100000 in
theorem c_T_ahead (l : Launch) (D : va_G) (ty : Nat → ClassId) (m9 w9 : Int32) (bc tx hi sl : Nat) (b : Nat → Nat) (a : Nat → Nat) (r : Nat → Int32) (x y : Int64) (g : Nat → Nat → Int32) (r2 : Nat → Int32) (x2 y2 : Int64) (g2 : Nat → Nat → Int32) (hst : l.stackTraces = false) (hw : Iw r) (hc0 : inR m9 0 1440) (hc1 : inR w9 0 5) : CTi l yL_tryAhead wsL_tryAhead ({ frames := 8, cells := 2, slots := 12, locals := 129 }) D ty [.ref bc, .int m9, .int w9] [[ob bc 8 [.ref tx, .ref (a 0), .ref (b 0), .ref hi, .ref sl]], (stW ty a r x y g), (stW ty b r2 x2 y2 g2)] (fun (RET : Int32) (_ : Unit) => RET = (ptell (minsR m9.toNatClampNeg r) (ahd w9.toNatClampNeg))) (fun (_ : Unit) => [[ob bc 8 [.ref tx, .ref (a 0), .ref (b 0), .ref hi, .ref sl]], (stW ty a r x y g), (stW ty b (minsR m9.toNatClampNeg r) (minsX m9.toNatClampNeg r x) (minsY m9.toNatClampNeg r y) g)]) := by
  refine CTi_ofH cL_tryAhead 4 (some .int) [(0, 6, 7, 13)] (by decide) rfl (Nat.le_of_ble_eq_true rfl) ?_
  intro p e s m args below meth c A hx hb hr hml hown hlocks hin hts hA hX hK hP hD ht0 ls hl
  have hown : s.vm.findClass RL = some m.cls := hown
  have hS : va_S A s.heap s.heap [] := va_S.rf
  have hl : lv_has ls 4 [(0, .ref bc), (1, .int m9), (2, .int w9)] := hl
  refine lv_aload_n hx hb dL_tryAhead_0 rfl (lv_at hl 0 rfl) ?_
  refine lv_iload_n hx hb dL_tryAhead_1 rfl (lv_at hl 1 rfl) ?_
  refine lv_iload_n hx hb dL_tryAhead_2 rfl (lv_at hl 2 rfl) ?_
  refine cVxi (As := [.int m9, .int w9]) (rest := []) ⟨hx, hb, hml, hown, hts⟩ (c_X9_ahead l D ty m9 w9 bc tx hi sl b a r x y g r2 x2 y2 g2 hst hw) (cwV 2 hts gL_tryAhead_X9_ahead rfl rfl rfl (by decide +kernel) ⟨Nat.le_of_ble_eq_true rfl, Nat.le_of_ble_eq_true rfl⟩) hK hX hP hD hS hA (pk (bs := [[ob bc 8 [.ref tx, .ref (a 0), .ref (b 0), .ref hi, .ref sl]], (stW ty a r x y g), (stW ty b r2 x2 y2 g2)]) (bsc := [[ob bc 8 [.ref tx, .ref (a 0), .ref (b 0), .ref hi, .ref sl]], (stW ty a r x y g), (stW ty b r2 x2 y2 g2)]) (bsr := []) [0, 1, 2] [] 3 rfl (by decide +kernel) rfl rfl) (ci := 8) rfl 0 rfl rfl hl.1 rfl (Nat.le_of_ble_eq_true rfl) dL_tryAhead_3 ⟨Nat.le_of_ble_eq_true rfl, Nat.le_of_ble_eq_true rfl⟩ (fun E hE ce q9 H locs hP hD hS hce hcv hcl => ?_) (fun r9 u9 h9 H locs hP hD hS => ?_)
  · skip
    rcases hE with ⟨hEE, h0⟩ | ⟨hEE, k0, h1⟩
    · skip
      exact absurd hc0 h0
    · skip
      exact absurd hc1 h1
  · skip
    have hP : va_P D vwCl (fl [[ob bc 8 [.ref tx, .ref (a 0), .ref (b 0), .ref hi, .ref sl]], (stW ty a r x y g), (stW ty b (minsR m9.toNatClampNeg r) (minsX m9.toNatClampNeg r x) (minsY m9.toNatClampNeg r y) g)]) H := by rw [List.append_nil] at hP; exact hP
    have hD : va_D A (fl [[ob bc 8 [.ref tx, .ref (a 0), .ref (b 0), .ref hi, .ref sl]], (stW ty a r x y g), (stW ty b (minsR m9.toNatClampNeg r) (minsX m9.toNatClampNeg r x) (minsY m9.toNatClampNeg r y) g)]) := by rw [List.append_nil] at hD; exact hD
    have h8 : r9 = (ptell (minsR m9.toNatClampNeg r) (ahd w9.toNatClampNeg)) := h9.1
    subst h8
    have hP : va_P D vwCl (fl [[ob bc 8 [.ref tx, .ref (a 0), .ref (b 0), .ref hi, .ref sl]], (stW ty a r x y g), (stW ty b (minsR m9.toNatClampNeg r) (minsX m9.toNatClampNeg r x) (minsY m9.toNatClampNeg r y) g)]) H := hP
    have hD : va_D A (fl [[ob bc 8 [.ref tx, .ref (a 0), .ref (b 0), .ref hi, .ref sl]], (stW ty a r x y g), (stW ty b (minsR m9.toNatClampNeg r) (minsX m9.toNatClampNeg r x) (minsY m9.toNatClampNeg r y) g)]) := hD
    exact end_i (bs' := (fun (_ : Unit) => [[ob bc 8 [.ref tx, .ref (a 0), .ref (b 0), .ref hi, .ref sl]], (stW ty a r x y g), (stW ty b (minsR m9.toNatClampNeg r) (minsX m9.toNatClampNeg r x) (minsY m9.toNatClampNeg r y) g)])) () hx hb hr hlocks hP hD hS (by first | rfl | decide | simp []) (Nat.le_of_ble_eq_true rfl) (Nat.le_of_ble_eq_true rfl) dL_tryAhead_6
set_option maxHeartbeats 4000000 in
set_option maxRecDepth 100000 in
theorem c_T_ahead_n0 (l : Launch) (D : va_G) (ty : Nat → ClassId) (m9 w9 : Int32) (bc tx hi sl : Nat) (b : Nat → Nat) (a : Nat → Nat) (r : Nat → Int32) (x y : Int64) (g : Nat → Nat → Int32) (r2 : Nat → Int32) (x2 y2 : Int64) (g2 : Nat → Nat → Int32) (hst : l.stackTraces = false) (hw : Iw r) (hc0 : ¬ (inR m9 0 1440)) : CTi l yL_tryAhead wsL_tryAhead ({ frames := 8, cells := 2, slots := 12, locals := 129 }) D ty [.ref bc, .int m9, .int w9] [[ob bc 8 [.ref tx, .ref (a 0), .ref (b 0), .ref hi, .ref sl]], (stW ty a r x y g), (stW ty b r2 x2 y2 g2)] (fun (RET : Int32) (_ : Unit) => RET = (-999999002)) (fun (_ : Unit) => [[ob bc 8 [.ref tx, .ref (a 0), .ref (b 0), .ref hi, .ref sl]], (stW ty a r x y g), (stW ty b r2 x2 y2 g2)]) := by
  refine CTi_ofH cL_tryAhead 4 (some .int) [(0, 6, 7, 13)] (by decide) rfl (Nat.le_of_ble_eq_true rfl) ?_
  intro p e s m args below meth c A hx hb hr hml hown hlocks hin hts hA hX hK hP hD ht0 ls hl
  have hown : s.vm.findClass RL = some m.cls := hown
  have hS : va_S A s.heap s.heap [] := va_S.rf
  have hl : lv_has ls 4 [(0, .ref bc), (1, .int m9), (2, .int w9)] := hl
  refine lv_aload_n hx hb dL_tryAhead_0 rfl (lv_at hl 0 rfl) ?_
  refine lv_iload_n hx hb dL_tryAhead_1 rfl (lv_at hl 1 rfl) ?_
  refine lv_iload_n hx hb dL_tryAhead_2 rfl (lv_at hl 2 rfl) ?_
  refine cVxi (As := [.int m9, .int w9]) (rest := []) ⟨hx, hb, hml, hown, hts⟩ (c_X9_ahead l D ty m9 w9 bc tx hi sl b a r x y g r2 x2 y2 g2 hst hw) (cwV 2 hts gL_tryAhead_X9_ahead rfl rfl rfl (by decide +kernel) ⟨Nat.le_of_ble_eq_true rfl, Nat.le_of_ble_eq_true rfl⟩) hK hX hP hD hS hA (pk (bs := [[ob bc 8 [.ref tx, .ref (a 0), .ref (b 0), .ref hi, .ref sl]], (stW ty a r x y g), (stW ty b r2 x2 y2 g2)]) (bsc := [[ob bc 8 [.ref tx, .ref (a 0), .ref (b 0), .ref hi, .ref sl]], (stW ty a r x y g), (stW ty b r2 x2 y2 g2)]) (bsr := []) [0, 1, 2] [] 3 rfl (by decide +kernel) rfl rfl) (ci := 8) rfl 0 rfl rfl hl.1 rfl (Nat.le_of_ble_eq_true rfl) dL_tryAhead_3 ⟨Nat.le_of_ble_eq_true rfl, Nat.le_of_ble_eq_true rfl⟩ (fun E hE ce q9 H locs hP hD hS hce hcv hcl => ?_) (fun r9 u9 h9 H locs hP hD hS => ?_)
  · skip
    rcases hE with ⟨hEE, h0⟩ | ⟨hEE, k0, h1⟩
    · skip
      subst hEE
      have hP : va_P D vwCl (fl [[ob bc 8 [.ref tx, .ref (a 0), .ref (b 0), .ref hi, .ref sl]], (stW ty a r x y g), (stW ty b r2 x2 y2 g2)]) H := by rw [List.append_nil] at hP; exact hP
      have hD : va_D A (fl [[ob bc 8 [.ref tx, .ref (a 0), .ref (b 0), .ref hi, .ref sl]], (stW ty a r x y g), (stW ty b r2 x2 y2 g2)]) := by rw [List.append_nil] at hD; exact hD
      refine vx_catch (own := RL) (name := EIA) (E := EIA) hown [] ⟨0, 6, 7, 13⟩ [] (ht0.trans rfl) (fun z hz => by cases hz) (by decide) (by decide) (hts (Cond.classLink RL 13 "java/lang/IllegalArgumentException") (List.mem_of_getElem? (i := 1) rfl)) (va_Nw.use rfl hX.1.2.2.1.1) hce hcv hcl ?_
      refine lv_astore_n (lv' := [(3, .ref q9), (0, .ref bc), (1, .int m9), (2, .int w9)]) hx hb dL_tryAhead_7 rfl hl (by decide) rfl (fun ls hl => ?_)
      refine lv_ldc hx hb hown (hts (Cond.constant RL 15 (-999999002)) (List.mem_of_getElem? (i := 2) rfl)) dL_tryAhead_8 ?_
      have hP : va_P D vwCl (fl [[ob bc 8 [.ref tx, .ref (a 0), .ref (b 0), .ref hi, .ref sl]], (stW ty a r x y g), (stW ty b r2 x2 y2 g2)]) H := hP
      have hD : va_D A (fl [[ob bc 8 [.ref tx, .ref (a 0), .ref (b 0), .ref hi, .ref sl]], (stW ty a r x y g), (stW ty b r2 x2 y2 g2)]) := hD
      exact end_i (bs' := (fun (_ : Unit) => [[ob bc 8 [.ref tx, .ref (a 0), .ref (b 0), .ref hi, .ref sl]], (stW ty a r x y g), (stW ty b r2 x2 y2 g2)])) () hx hb hr hlocks hP hD hS (by first | rfl | decide | simp []) (Nat.le_of_ble_eq_true rfl) (Nat.le_of_ble_eq_true rfl) dL_tryAhead_10
    · skip
      exact absurd k0 hc0
  · exact absurd h9.2.1 hc0
set_option maxHeartbeats 4000000 in
set_option maxRecDepth 100000 in
theorem c_T_ahead_n1 (l : Launch) (D : va_G) (ty : Nat → ClassId) (m9 w9 : Int32) (bc tx hi sl : Nat) (b : Nat → Nat) (a : Nat → Nat) (r : Nat → Int32) (x y : Int64) (g : Nat → Nat → Int32) (r2 : Nat → Int32) (x2 y2 : Int64) (g2 : Nat → Nat → Int32) (hst : l.stackTraces = false) (hw : Iw r) (hc0 : inR m9 0 1440) (hc1 : ¬ (inR w9 0 5)) : CTi l yL_tryAhead wsL_tryAhead ({ frames := 8, cells := 2, slots := 12, locals := 129 }) D ty [.ref bc, .int m9, .int w9] [[ob bc 8 [.ref tx, .ref (a 0), .ref (b 0), .ref hi, .ref sl]], (stW ty a r x y g), (stW ty b r2 x2 y2 g2)] (fun (RET : Int32) (_ : Unit) => RET = (-999999002)) (fun (_ : Unit) => [[ob bc 8 [.ref tx, .ref (a 0), .ref (b 0), .ref hi, .ref sl]], (stW ty a r x y g), (stW ty b r2 x2 y2 g2)]) := by
  refine CTi_ofH cL_tryAhead 4 (some .int) [(0, 6, 7, 13)] (by decide) rfl (Nat.le_of_ble_eq_true rfl) ?_
  intro p e s m args below meth c A hx hb hr hml hown hlocks hin hts hA hX hK hP hD ht0 ls hl
  have hown : s.vm.findClass RL = some m.cls := hown
  have hS : va_S A s.heap s.heap [] := va_S.rf
  have hl : lv_has ls 4 [(0, .ref bc), (1, .int m9), (2, .int w9)] := hl
  refine lv_aload_n hx hb dL_tryAhead_0 rfl (lv_at hl 0 rfl) ?_
  refine lv_iload_n hx hb dL_tryAhead_1 rfl (lv_at hl 1 rfl) ?_
  refine lv_iload_n hx hb dL_tryAhead_2 rfl (lv_at hl 2 rfl) ?_
  refine cVxi (As := [.int m9, .int w9]) (rest := []) ⟨hx, hb, hml, hown, hts⟩ (c_X9_ahead l D ty m9 w9 bc tx hi sl b a r x y g r2 x2 y2 g2 hst hw) (cwV 2 hts gL_tryAhead_X9_ahead rfl rfl rfl (by decide +kernel) ⟨Nat.le_of_ble_eq_true rfl, Nat.le_of_ble_eq_true rfl⟩) hK hX hP hD hS hA (pk (bs := [[ob bc 8 [.ref tx, .ref (a 0), .ref (b 0), .ref hi, .ref sl]], (stW ty a r x y g), (stW ty b r2 x2 y2 g2)]) (bsc := [[ob bc 8 [.ref tx, .ref (a 0), .ref (b 0), .ref hi, .ref sl]], (stW ty a r x y g), (stW ty b r2 x2 y2 g2)]) (bsr := []) [0, 1, 2] [] 3 rfl (by decide +kernel) rfl rfl) (ci := 8) rfl 0 rfl rfl hl.1 rfl (Nat.le_of_ble_eq_true rfl) dL_tryAhead_3 ⟨Nat.le_of_ble_eq_true rfl, Nat.le_of_ble_eq_true rfl⟩ (fun E hE ce q9 H locs hP hD hS hce hcv hcl => ?_) (fun r9 u9 h9 H locs hP hD hS => ?_)
  · skip
    rcases hE with ⟨hEE, h0⟩ | ⟨hEE, k0, h1⟩
    · skip
      exact absurd hc0 h0
    · skip
      subst hEE
      have hP : va_P D vwCl (fl [[ob bc 8 [.ref tx, .ref (a 0), .ref (b 0), .ref hi, .ref sl]], (stW ty a r x y g), (stW ty b r2 x2 y2 g2)]) H := by rw [List.append_nil] at hP; exact hP
      have hD : va_D A (fl [[ob bc 8 [.ref tx, .ref (a 0), .ref (b 0), .ref hi, .ref sl]], (stW ty a r x y g), (stW ty b r2 x2 y2 g2)]) := by rw [List.append_nil] at hD; exact hD
      refine vx_catch (own := RL) (name := EIA) (E := EIA) hown [] ⟨0, 6, 7, 13⟩ [] (ht0.trans rfl) (fun z hz => by cases hz) (by decide) (by decide) (hts (Cond.classLink RL 13 "java/lang/IllegalArgumentException") (List.mem_of_getElem? (i := 1) rfl)) (va_Nw.use rfl hX.1.2.2.1.1) hce hcv hcl ?_
      refine lv_astore_n (lv' := [(3, .ref q9), (0, .ref bc), (1, .int m9), (2, .int w9)]) hx hb dL_tryAhead_7 rfl hl (by decide) rfl (fun ls hl => ?_)
      refine lv_ldc hx hb hown (hts (Cond.constant RL 15 (-999999002)) (List.mem_of_getElem? (i := 2) rfl)) dL_tryAhead_8 ?_
      have hP : va_P D vwCl (fl [[ob bc 8 [.ref tx, .ref (a 0), .ref (b 0), .ref hi, .ref sl]], (stW ty a r x y g), (stW ty b r2 x2 y2 g2)]) H := hP
      have hD : va_D A (fl [[ob bc 8 [.ref tx, .ref (a 0), .ref (b 0), .ref hi, .ref sl]], (stW ty a r x y g), (stW ty b r2 x2 y2 g2)]) := hD
      exact end_i (bs' := (fun (_ : Unit) => [[ob bc 8 [.ref tx, .ref (a 0), .ref (b 0), .ref hi, .ref sl]], (stW ty a r x y g), (stW ty b r2 x2 y2 g2)])) () hx hb hr hlocks hP hD hS (by first | rfl | decide | simp []) (Nat.le_of_ble_eq_true rfl) (Nat.le_of_ble_eq_true rfl) dL_tryAhead_10
  · exact absurd h9.2.2 hc1
set_option maxHeartbeats 4000000 in
set_option maxRecDepth 100000 in
theorem c_T_dueAfter (l : Launch) (D : va_G) (ty : Nat → ClassId) (i9 : Int32) (bc tx hi sl : Nat) (b : Nat → Nat) (a : Nat → Nat) (r : Nat → Int32) (x y : Int64) (g : Nat → Nat → Int32) (r2 : Nat → Int32) (x2 y2 : Int64) (g2 : Nat → Nat → Int32) (hst : l.stackTraces = false) (hw : Iw r) (hc0 : inI i9 4) : CTi l yL_tryDueAfter wsL_tryDueAfter ({ frames := 8, cells := 1, slots := 6, locals := 126 }) D ty [.ref bc, .int i9] [[ob bc 8 [.ref tx, .ref (a 0), .ref (b 0), .ref hi, .ref sl]], (stW ty a r x y g), (stW ty b r2 x2 y2 g2)] (fun (RET : Int32) (_ : Unit) => RET = (dueF i9.toNatClampNeg 3000 1 r)) (fun (_ : Unit) => [[ob bc 8 [.ref tx, .ref (a 0), .ref (b 0), .ref hi, .ref sl]], (stW ty a r x y g), (stW ty b (minsR (dueM i9.toNatClampNeg 3000 r) r) (minsX (dueM i9.toNatClampNeg 3000 r) r x) (minsY (dueM i9.toNatClampNeg 3000 r) r y) g)]) := by
  refine CTi_ofH cL_tryDueAfter 3 (some .int) [(0, 5, 6, 29)] (by decide) rfl (Nat.le_of_ble_eq_true rfl) ?_
  intro p e s m args below meth c A hx hb hr hml hown hlocks hin hts hA hX hK hP hD ht0 ls hl
  have hown : s.vm.findClass RL = some m.cls := hown
  have hS : va_S A s.heap s.heap [] := va_S.rf
  have hl : lv_has ls 3 [(0, .ref bc), (1, .int i9)] := hl
  refine lv_aload_n hx hb dL_tryDueAfter_0 rfl (lv_at hl 0 rfl) ?_
  refine lv_iload_n hx hb dL_tryDueAfter_1 rfl (lv_at hl 1 rfl) ?_
  refine cVxi (As := [.int i9]) (rest := []) ⟨hx, hb, hml, hown, hts⟩ (c_X9_dueAfter l D ty i9 bc tx hi sl b a r x y g r2 x2 y2 g2 hst hw) (cwV 1 hts gL_tryDueAfter_X9_dueAfter rfl rfl rfl (by decide +kernel) ⟨Nat.le_of_ble_eq_true rfl, Nat.le_of_ble_eq_true rfl⟩) hK hX hP hD hS hA (pk (bs := [[ob bc 8 [.ref tx, .ref (a 0), .ref (b 0), .ref hi, .ref sl]], (stW ty a r x y g), (stW ty b r2 x2 y2 g2)]) (bsc := [[ob bc 8 [.ref tx, .ref (a 0), .ref (b 0), .ref hi, .ref sl]], (stW ty a r x y g), (stW ty b r2 x2 y2 g2)]) (bsr := []) [0, 1, 2] [] 3 rfl (by decide +kernel) rfl rfl) (ci := 8) rfl 0 rfl rfl hl.1 rfl (Nat.le_of_ble_eq_true rfl) dL_tryDueAfter_2 ⟨Nat.le_of_ble_eq_true rfl, Nat.le_of_ble_eq_true rfl⟩ (fun E hE ce q9 H locs hP hD hS hce hcv hcl => ?_) (fun r9 u9 h9 H locs hP hD hS => ?_)
  · skip
    obtain ⟨hEE, h0⟩ := hE
    exact absurd hc0 h0
  · skip
    have hP : va_P D vwCl (fl [[ob bc 8 [.ref tx, .ref (a 0), .ref (b 0), .ref hi, .ref sl]], (stW ty a r x y g), (stW ty b (minsR (dueM i9.toNatClampNeg 3000 r) r) (minsX (dueM i9.toNatClampNeg 3000 r) r x) (minsY (dueM i9.toNatClampNeg 3000 r) r y) g)]) H := by rw [List.append_nil] at hP; exact hP
    have hD : va_D A (fl [[ob bc 8 [.ref tx, .ref (a 0), .ref (b 0), .ref hi, .ref sl]], (stW ty a r x y g), (stW ty b (minsR (dueM i9.toNatClampNeg 3000 r) r) (minsX (dueM i9.toNatClampNeg 3000 r) r x) (minsY (dueM i9.toNatClampNeg 3000 r) r y) g)]) := by rw [List.append_nil] at hD; exact hD
    have h8 : r9 = (dueF i9.toNatClampNeg 3000 1 r) := h9.1
    subst h8
    have hP : va_P D vwCl (fl [[ob bc 8 [.ref tx, .ref (a 0), .ref (b 0), .ref hi, .ref sl]], (stW ty a r x y g), (stW ty b (minsR (dueM i9.toNatClampNeg 3000 r) r) (minsX (dueM i9.toNatClampNeg 3000 r) r x) (minsY (dueM i9.toNatClampNeg 3000 r) r y) g)]) H := hP
    have hD : va_D A (fl [[ob bc 8 [.ref tx, .ref (a 0), .ref (b 0), .ref hi, .ref sl]], (stW ty a r x y g), (stW ty b (minsR (dueM i9.toNatClampNeg 3000 r) r) (minsX (dueM i9.toNatClampNeg 3000 r) r x) (minsY (dueM i9.toNatClampNeg 3000 r) r y) g)]) := hD
    exact end_i (bs' := (fun (_ : Unit) => [[ob bc 8 [.ref tx, .ref (a 0), .ref (b 0), .ref hi, .ref sl]], (stW ty a r x y g), (stW ty b (minsR (dueM i9.toNatClampNeg 3000 r) r) (minsX (dueM i9.toNatClampNeg 3000 r) r x) (minsY (dueM i9.toNatClampNeg 3000 r) r y) g)])) () hx hb hr hlocks hP hD hS (by first | rfl | decide | simp []) (Nat.le_of_ble_eq_true rfl) (Nat.le_of_ble_eq_true rfl) dL_tryDueAfter_5
