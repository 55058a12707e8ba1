set_option maxHeartbeats 4000000 in
set_option maxRecDepth 100000 in
theorem c_L_correct (l : Launch) (D : va_G) (ty : Nat → ClassId) (v9 : Int32) (bc tx hi sl : Nat) (b : Nat → Nat) (a : Nat → Nat) (r : Nat → Int32) (x y : Int64) (g : Nat → Nat → Int32) (hs cn : Nat) (ad : Nat → Nat → Nat) (ur : Nat → Nat → Int32) (ux uy : Nat → Int64) (ug : Nat → Nat → Nat → Int32) (ot : Nat) (of : Nat → Int64) (hst : l.stackTraces = false) (hc : cn ≤ 14) (hc0 : inR v9 (-500) 500) (hc1 : pdom r = 0) : CTi l yL_correct wsL_correct ({ frames := 8, cells := 2, slots := 12, locals := 126 }) D ty [.ref bc, .int v9, .ref ot] [[la ty ot 1 of], [ob bc 8 [.ref tx, .ref (a 0), .ref (b 0), .ref hi, .ref sl]], [ob hi 2 [.ref hs, .int (nI cn)]], [sa ty hs 14 (fun k => some (ad k 0))], (stW ty a r x y g), (hsW ty ad ur ux uy ug)] (fun (RET : Int32) (_ : Unit) => RET = 0) (fun (_ : Unit) => [[la ty ot 1 (vp_updL of 0 (Int32.toInt64 (r 4)))], [ob bc 8 [.ref tx, .ref (a 0), .ref (b 0), .ref hi, .ref sl]], [ob hi 2 [.ref hs, .int (nI (remC cn))]], [sa ty hs 14 (fun k => some ((remA cn ad) k 0))], (stW ty a (upd r 4 v9) x y g), (hsW ty (remA cn ad) (remF cn ur r) (remF cn ux x) (remF cn uy y) (remF cn ug g))]) := by
  refine CTi_ofH cL_correct 4 (some .int) [(0, 9, 12, 13), (0, 9, 15, 15)] (by decide) rfl (Nat.le_of_ble_eq_true rfl) ?_
  intro p e s m args below meth c A hx hb hr hml hown hlocks hin hts hA hX hK hP hD ht0 ls hl
  have hown : s.vm.findClass RL = some m.cls := hown
  have hS : va_S A s.heap s.heap [] := va_S.rf
  have hl : lv_has ls 4 [(0, .ref bc), (1, .int v9), (2, .ref ot)] := hl
  refine lv_aload_n hx hb dL_correct_0 rfl (lv_at hl 2 rfl) ?_
  refine lv_iconst (v := 0) hx hb dL_correct_1 (by decide) ?_
  refine lv_aload_n hx hb dL_correct_2 rfl (lv_at hl 0 rfl) ?_
  refine lv_iload_n hx hb dL_correct_3 rfl (lv_at hl 1 rfl) ?_
  refine cVxi (As := [.int v9]) (rest := [.int 0, .ref ot]) ⟨hx, hb, hml, hown, hts⟩ (c_X9_correct l D ty v9 bc tx hi sl b a r x y g hs cn ad ur ux uy ug hst hc) (cwV 1 hts gL_correct_X9_correct rfl rfl rfl (by decide +kernel) ⟨Nat.le_of_ble_eq_true rfl, Nat.le_of_ble_eq_true rfl⟩) hK hX hP hD hS hA (pk (bs := [[la ty ot 1 of], [ob bc 8 [.ref tx, .ref (a 0), .ref (b 0), .ref hi, .ref sl]], [ob hi 2 [.ref hs, .int (nI cn)]], [sa ty hs 14 (fun k => some (ad k 0))], (stW ty a r x y g), (hsW ty ad ur ux uy ug)]) (bsc := [[ob bc 8 [.ref tx, .ref (a 0), .ref (b 0), .ref hi, .ref sl]], [ob hi 2 [.ref hs, .int (nI cn)]], [sa ty hs 14 (fun k => some (ad k 0))], (stW ty a r x y g), (hsW ty ad ur ux uy ug)]) (bsr := [[la ty ot 1 of]]) [1, 2, 3, 4, 5] [0] 6 rfl (by decide +kernel) rfl rfl) (ci := 8) rfl 0 rfl rfl hl.1 rfl (Nat.le_of_ble_eq_true rfl) dL_correct_4 ⟨Nat.le_of_ble_eq_true rfl, Nat.le_of_ble_eq_true rfl⟩ (fun E hE ce q9 H locs hP hD hS hce hcv hcl => ?_) (fun r9 u9 h9 H locs hP hD hS => ?_)
  · skip
    rcases hE with ⟨hEE, h0⟩ | ⟨hEE, k0, h1⟩
    · skip
      exact absurd hc0 h0
    · skip
      exact absurd hc1 h1
  · skip
    have hP : va_P D vwCl (fl [[la ty ot 1 of], [ob bc 8 [.ref tx, .ref (a 0), .ref (b 0), .ref hi, .ref sl]], [ob hi 2 [.ref hs, .int (nI (remC cn))]], [sa ty hs 14 (fun k => some ((remA cn ad) k 0))], (stW ty a (upd r 4 v9) x y g), (hsW ty (remA cn ad) (remF cn ur r) (remF cn ux x) (remF cn uy y) (remF cn ug g))]) H := P_perm (po (bs := [[ob bc 8 [.ref tx, .ref (a 0), .ref (b 0), .ref hi, .ref sl]], [ob hi 2 [.ref hs, .int (nI (remC cn))]], [sa ty hs 14 (fun k => some ((remA cn ad) k 0))], (stW ty a (upd r 4 v9) x y g), (hsW ty (remA cn ad) (remF cn ur r) (remF cn ux x) (remF cn uy y) (remF cn ug g)), [la ty ot 1 of]]) [5, 0, 1, 2, 3, 4] 6 rfl (by decide +kernel) rfl) hP
    have hD : va_D A (fl [[la ty ot 1 of], [ob bc 8 [.ref tx, .ref (a 0), .ref (b 0), .ref hi, .ref sl]], [ob hi 2 [.ref hs, .int (nI (remC cn))]], [sa ty hs 14 (fun k => some ((remA cn ad) k 0))], (stW ty a (upd r 4 v9) x y g), (hsW ty (remA cn ad) (remF cn ur r) (remF cn ux x) (remF cn uy y) (remF cn ug g))]) := D_perm (po (bs := [[ob bc 8 [.ref tx, .ref (a 0), .ref (b 0), .ref hi, .ref sl]], [ob hi 2 [.ref hs, .int (nI (remC cn))]], [sa ty hs 14 (fun k => some ((remA cn ad) k 0))], (stW ty a (upd r 4 v9) x y g), (hsW ty (remA cn ad) (remF cn ur r) (remF cn ux x) (remF cn uy y) (remF cn ug g)), [la ty ot 1 of]]) [5, 0, 1, 2, 3, 4] 6 rfl (by decide +kernel) rfl) hD
    have h8 : r9 = (r 4) := h9.1
    subst h8
    refine lv_i2l (v := (Int32.toInt64 (r 4))) hx hb dL_correct_7 rfl ?_
    refine k_last hx hb hK hP hD hS 0 rfl 0 rfl (by decide) (Nat.le_of_ble_eq_true rfl) dL_correct_8 (fun H locs hP hD hS => ?_)
    have hP : va_P D vwCl (fl [[la ty ot 1 (vp_updL of 0 (Int32.toInt64 (r 4)))], [ob bc 8 [.ref tx, .ref (a 0), .ref (b 0), .ref hi, .ref sl]], [ob hi 2 [.ref hs, .int (nI (remC cn))]], [sa ty hs 14 (fun k => some ((remA cn ad) k 0))], (stW ty a (upd r 4 v9) x y g), (hsW ty (remA cn ad) (remF cn ur r) (remF cn ux x) (remF cn uy y) (remF cn ug g))]) H := hP
    have hD : va_D A (fl [[la ty ot 1 (vp_updL of 0 (Int32.toInt64 (r 4)))], [ob bc 8 [.ref tx, .ref (a 0), .ref (b 0), .ref hi, .ref sl]], [ob hi 2 [.ref hs, .int (nI (remC cn))]], [sa ty hs 14 (fun k => some ((remA cn ad) k 0))], (stW ty a (upd r 4 v9) x y g), (hsW ty (remA cn ad) (remF cn ur r) (remF cn ux x) (remF cn uy y) (remF cn ug g))]) := hD
    refine lv_goto (tgt := 18) hx hb dL_correct_9 (by decide) ?_
    refine lv_iconst (v := 0) hx hb dL_correct_18 (by decide) ?_
    have hP : va_P D vwCl (fl [[la ty ot 1 (vp_updL of 0 (Int32.toInt64 (r 4)))], [ob bc 8 [.ref tx, .ref (a 0), .ref (b 0), .ref hi, .ref sl]], [ob hi 2 [.ref hs, .int (nI (remC cn))]], [sa ty hs 14 (fun k => some ((remA cn ad) k 0))], (stW ty a (upd r 4 v9) x y g), (hsW ty (remA cn ad) (remF cn ur r) (remF cn ux x) (remF cn uy y) (remF cn ug g))]) H := hP
    have hD : va_D A (fl [[la ty ot 1 (vp_updL of 0 (Int32.toInt64 (r 4)))], [ob bc 8 [.ref tx, .ref (a 0), .ref (b 0), .ref hi, .ref sl]], [ob hi 2 [.ref hs, .int (nI (remC cn))]], [sa ty hs 14 (fun k => some ((remA cn ad) k 0))], (stW ty a (upd r 4 v9) x y g), (hsW ty (remA cn ad) (remF cn ur r) (remF cn ux x) (remF cn uy y) (remF cn ug g))]) := hD
    exact end_i (bs' := (fun (_ : Unit) => [[la ty ot 1 (vp_updL of 0 (Int32.toInt64 (r 4)))], [ob bc 8 [.ref tx, .ref (a 0), .ref (b 0), .ref hi, .ref sl]], [ob hi 2 [.ref hs, .int (nI (remC cn))]], [sa ty hs 14 (fun k => some ((remA cn ad) k 0))], (stW ty a (upd r 4 v9) x y g), (hsW ty (remA cn ad) (remF cn ur r) (remF cn ux x) (remF cn uy y) (remF cn ug g))])) () hx hb hr hlocks hP hD hS (by first | rfl | decide | simp []) (Nat.le_of_ble_eq_true rfl) (Nat.le_of_ble_eq_true rfl) dL_correct_19
set_option maxHeartbeats 4000000 in
set_option maxRecDepth 100000 in
theorem c_L_correct_n0 (l : Launch) (D : va_G) (ty : Nat → ClassId) (v9 : Int32) (bc tx hi sl : Nat) (b : Nat → Nat) (a : Nat → Nat) (r : Nat → Int32) (x y : Int64) (g : Nat → Nat → Int32) (hs cn : Nat) (ad : Nat → Nat → Nat) (ur : Nat → Nat → Int32) (ux uy : Nat → Int64) (ug : Nat → Nat → Nat → Int32) (ot : Nat) (of : Nat → Int64) (hst : l.stackTraces = false) (hc : cn ≤ 14) (hc0 : ¬ (inR v9 (-500) 500)) : CTi l yL_correct wsL_correct ({ frames := 8, cells := 2, slots := 12, locals := 126 }) D ty [.ref bc, .int v9, .ref ot] [[la ty ot 1 of], [ob bc 8 [.ref tx, .ref (a 0), .ref (b 0), .ref hi, .ref sl]], [ob hi 2 [.ref hs, .int (nI cn)]], [sa ty hs 14 (fun k => some (ad k 0))], (stW ty a r x y g), (hsW ty ad ur ux uy ug)] (fun (RET : Int32) (_ : Unit) => RET = 1) (fun (_ : Unit) => [[la ty ot 1 of], [ob bc 8 [.ref tx, .ref (a 0), .ref (b 0), .ref hi, .ref sl]], [ob hi 2 [.ref hs, .int (nI cn)]], [sa ty hs 14 (fun k => some (ad k 0))], (stW ty a r x y g), (hsW ty ad ur ux uy ug)]) := by
  refine CTi_ofH cL_correct 4 (some .int) [(0, 9, 12, 13), (0, 9, 15, 15)] (by decide) rfl (Nat.le_of_ble_eq_true rfl) ?_
  intro p e s m args below meth c A hx hb hr hml hown hlocks hin hts hA hX hK hP hD ht0 ls hl
  have hown : s.vm.findClass RL = some m.cls := hown
  have hS : va_S A s.heap s.heap [] := va_S.rf
  have hl : lv_has ls 4 [(0, .ref bc), (1, .int v9), (2, .ref ot)] := hl
  refine lv_aload_n hx hb dL_correct_0 rfl (lv_at hl 2 rfl) ?_
  refine lv_iconst (v := 0) hx hb dL_correct_1 (by decide) ?_
  refine lv_aload_n hx hb dL_correct_2 rfl (lv_at hl 0 rfl) ?_
  refine lv_iload_n hx hb dL_correct_3 rfl (lv_at hl 1 rfl) ?_
  refine cVxi (As := [.int v9]) (rest := [.int 0, .ref ot]) ⟨hx, hb, hml, hown, hts⟩ (c_X9_correct l D ty v9 bc tx hi sl b a r x y g hs cn ad ur ux uy ug hst hc) (cwV 1 hts gL_correct_X9_correct rfl rfl rfl (by decide +kernel) ⟨Nat.le_of_ble_eq_true rfl, Nat.le_of_ble_eq_true rfl⟩) hK hX hP hD hS hA (pk (bs := [[la ty ot 1 of], [ob bc 8 [.ref tx, .ref (a 0), .ref (b 0), .ref hi, .ref sl]], [ob hi 2 [.ref hs, .int (nI cn)]], [sa ty hs 14 (fun k => some (ad k 0))], (stW ty a r x y g), (hsW ty ad ur ux uy ug)]) (bsc := [[ob bc 8 [.ref tx, .ref (a 0), .ref (b 0), .ref hi, .ref sl]], [ob hi 2 [.ref hs, .int (nI cn)]], [sa ty hs 14 (fun k => some (ad k 0))], (stW ty a r x y g), (hsW ty ad ur ux uy ug)]) (bsr := [[la ty ot 1 of]]) [1, 2, 3, 4, 5] [0] 6 rfl (by decide +kernel) rfl rfl) (ci := 8) rfl 0 rfl rfl hl.1 rfl (Nat.le_of_ble_eq_true rfl) dL_correct_4 ⟨Nat.le_of_ble_eq_true rfl, Nat.le_of_ble_eq_true rfl⟩ (fun E hE ce q9 H locs hP hD hS hce hcv hcl => ?_) (fun r9 u9 h9 H locs hP hD hS => ?_)
  · skip
    rcases hE with ⟨hEE, h0⟩ | ⟨hEE, k0, h1⟩
    · skip
      subst hEE
      have hP : va_P D vwCl (fl [[la ty ot 1 of], [ob bc 8 [.ref tx, .ref (a 0), .ref (b 0), .ref hi, .ref sl]], [ob hi 2 [.ref hs, .int (nI cn)]], [sa ty hs 14 (fun k => some (ad k 0))], (stW ty a r x y g), (hsW ty ad ur ux uy ug)]) H := P_perm (po (bs := [[ob bc 8 [.ref tx, .ref (a 0), .ref (b 0), .ref hi, .ref sl]], [ob hi 2 [.ref hs, .int (nI cn)]], [sa ty hs 14 (fun k => some (ad k 0))], (stW ty a r x y g), (hsW ty ad ur ux uy ug), [la ty ot 1 of]]) [5, 0, 1, 2, 3, 4] 6 rfl (by decide +kernel) rfl) hP
      have hD : va_D A (fl [[la ty ot 1 of], [ob bc 8 [.ref tx, .ref (a 0), .ref (b 0), .ref hi, .ref sl]], [ob hi 2 [.ref hs, .int (nI cn)]], [sa ty hs 14 (fun k => some (ad k 0))], (stW ty a r x y g), (hsW ty ad ur ux uy ug)]) := D_perm (po (bs := [[ob bc 8 [.ref tx, .ref (a 0), .ref (b 0), .ref hi, .ref sl]], [ob hi 2 [.ref hs, .int (nI cn)]], [sa ty hs 14 (fun k => some (ad k 0))], (stW ty a r x y g), (hsW ty ad ur ux uy ug), [la ty ot 1 of]]) [5, 0, 1, 2, 3, 4] 6 rfl (by decide +kernel) rfl) hD
      refine vx_catch (own := RL) (name := EIA) (E := EIA) hown [] ⟨0, 9, 12, 13⟩ [⟨0, 9, 15, 15⟩] (ht0.trans rfl) (fun z hz => by cases hz) (by decide) (by decide) (hts (Cond.classLink RL 13 "java/lang/IllegalArgumentException") (List.mem_of_getElem? (i := 1) rfl)) (va_Nw.use rfl hX.1.2.2.1.1) hce hcv hcl ?_
      refine lv_astore_n (lv' := [(3, .ref q9), (0, .ref bc), (1, .int v9), (2, .ref ot)]) hx hb dL_correct_12 rfl hl (by decide) rfl (fun ls hl => ?_)
      refine lv_iconst (v := 1) hx hb dL_correct_13 (by decide) ?_
      have hP : va_P D vwCl (fl [[la ty ot 1 of], [ob bc 8 [.ref tx, .ref (a 0), .ref (b 0), .ref hi, .ref sl]], [ob hi 2 [.ref hs, .int (nI cn)]], [sa ty hs 14 (fun k => some (ad k 0))], (stW ty a r x y g), (hsW ty ad ur ux uy ug)]) H := hP
      have hD : va_D A (fl [[la ty ot 1 of], [ob bc 8 [.ref tx, .ref (a 0), .ref (b 0), .ref hi, .ref sl]], [ob hi 2 [.ref hs, .int (nI cn)]], [sa ty hs 14 (fun k => some (ad k 0))], (stW ty a r x y g), (hsW ty ad ur ux uy ug)]) := hD
      exact end_i (bs' := (fun (_ : Unit) => [[la ty ot 1 of], [ob bc 8 [.ref tx, .ref (a 0), .ref (b 0), .ref hi, .ref sl]], [ob hi 2 [.ref hs, .int (nI cn)]], [sa ty hs 14 (fun k => some (ad k 0))], (stW ty a r x y g), (hsW ty ad ur ux uy ug)])) () hx hb hr hlocks hP hD hS (by first | rfl | decide | simp []) (Nat.le_of_ble_eq_true rfl) (Nat.le_of_ble_eq_true rfl) dL_correct_14
    · skip
      exact absurd k0 hc0
  · exact absurd h9.2.1 hc0
set_option maxHeartbeats 4000000 in
set_option maxRecDepth 100000 in
theorem c_L_correct_n1 (l : Launch) (D : va_G) (ty : Nat → ClassId) (v9 : Int32) (bc tx hi sl : Nat) (b : Nat → Nat) (a : Nat → Nat) (r : Nat → Int32) (x y : Int64) (g : Nat → Nat → Int32) (hs cn : Nat) (ad : Nat → Nat → Nat) (ur : Nat → Nat → Int32) (ux uy : Nat → Int64) (ug : Nat → Nat → Nat → Int32) (ot : Nat) (of : Nat → Int64) (hst : l.stackTraces = false) (hc : cn ≤ 14) (hc0 : inR v9 (-500) 500) (hc1 : ¬ (pdom r = 0)) : CTi l yL_correct wsL_correct ({ frames := 8, cells := 2, slots := 12, locals := 126 }) D ty [.ref bc, .int v9, .ref ot] [[la ty ot 1 of], [ob bc 8 [.ref tx, .ref (a 0), .ref (b 0), .ref hi, .ref sl]], [ob hi 2 [.ref hs, .int (nI cn)]], [sa ty hs 14 (fun k => some (ad k 0))], (stW ty a r x y g), (hsW ty ad ur ux uy ug)] (fun (RET : Int32) (_ : Unit) => RET = 2) (fun (_ : Unit) => [[la ty ot 1 of], [ob bc 8 [.ref tx, .ref (a 0), .ref (b 0), .ref hi, .ref sl]], [ob hi 2 [.ref hs, .int (nI cn)]], [sa ty hs 14 (fun k => some (ad k 0))], (stW ty a r x y g), (hsW ty ad ur ux uy ug)]) := by
  refine CTi_ofH cL_correct 4 (some .int) [(0, 9, 12, 13), (0, 9, 15, 15)] (by decide) rfl (Nat.le_of_ble_eq_true rfl) ?_
  intro p e s m args below meth c A hx hb hr hml hown hlocks hin hts hA hX hK hP hD ht0 ls hl
  have hown : s.vm.findClass RL = some m.cls := hown
  have hS : va_S A s.heap s.heap [] := va_S.rf
  have hl : lv_has ls 4 [(0, .ref bc), (1, .int v9), (2, .ref ot)] := hl
  refine lv_aload_n hx hb dL_correct_0 rfl (lv_at hl 2 rfl) ?_
  refine lv_iconst (v := 0) hx hb dL_correct_1 (by decide) ?_
  refine lv_aload_n hx hb dL_correct_2 rfl (lv_at hl 0 rfl) ?_
  refine lv_iload_n hx hb dL_correct_3 rfl (lv_at hl 1 rfl) ?_
  refine cVxi (As := [.int v9]) (rest := [.int 0, .ref ot]) ⟨hx, hb, hml, hown, hts⟩ (c_X9_correct l D ty v9 bc tx hi sl b a r x y g hs cn ad ur ux uy ug hst hc) (cwV 1 hts gL_correct_X9_correct rfl rfl rfl (by decide +kernel) ⟨Nat.le_of_ble_eq_true rfl, Nat.le_of_ble_eq_true rfl⟩) hK hX hP hD hS hA (pk (bs := [[la ty ot 1 of], [ob bc 8 [.ref tx, .ref (a 0), .ref (b 0), .ref hi, .ref sl]], [ob hi 2 [.ref hs, .int (nI cn)]], [sa ty hs 14 (fun k => some (ad k 0))], (stW ty a r x y g), (hsW ty ad ur ux uy ug)]) (bsc := [[ob bc 8 [.ref tx, .ref (a 0), .ref (b 0), .ref hi, .ref sl]], [ob hi 2 [.ref hs, .int (nI cn)]], [sa ty hs 14 (fun k => some (ad k 0))], (stW ty a r x y g), (hsW ty ad ur ux uy ug)]) (bsr := [[la ty ot 1 of]]) [1, 2, 3, 4, 5] [0] 6 rfl (by decide +kernel) rfl rfl) (ci := 8) rfl 0 rfl rfl hl.1 rfl (Nat.le_of_ble_eq_true rfl) dL_correct_4 ⟨Nat.le_of_ble_eq_true rfl, Nat.le_of_ble_eq_true rfl⟩ (fun E hE ce q9 H locs hP hD hS hce hcv hcl => ?_) (fun r9 u9 h9 H locs hP hD hS => ?_)
  · skip
    rcases hE with ⟨hEE, h0⟩ | ⟨hEE, k0, h1⟩
    · skip
      exact absurd hc0 h0
    · skip
      subst hEE
      have hP : va_P D vwCl (fl [[la ty ot 1 of], [ob bc 8 [.ref tx, .ref (a 0), .ref (b 0), .ref hi, .ref sl]], [ob hi 2 [.ref hs, .int (nI cn)]], [sa ty hs 14 (fun k => some (ad k 0))], (stW ty a r x y g), (hsW ty ad ur ux uy ug)]) H := P_perm (po (bs := [[ob bc 8 [.ref tx, .ref (a 0), .ref (b 0), .ref hi, .ref sl]], [ob hi 2 [.ref hs, .int (nI cn)]], [sa ty hs 14 (fun k => some (ad k 0))], (stW ty a r x y g), (hsW ty ad ur ux uy ug), [la ty ot 1 of]]) [5, 0, 1, 2, 3, 4] 6 rfl (by decide +kernel) rfl) hP
      have hD : va_D A (fl [[la ty ot 1 of], [ob bc 8 [.ref tx, .ref (a 0), .ref (b 0), .ref hi, .ref sl]], [ob hi 2 [.ref hs, .int (nI cn)]], [sa ty hs 14 (fun k => some (ad k 0))], (stW ty a r x y g), (hsW ty ad ur ux uy ug)]) := D_perm (po (bs := [[ob bc 8 [.ref tx, .ref (a 0), .ref (b 0), .ref hi, .ref sl]], [ob hi 2 [.ref hs, .int (nI cn)]], [sa ty hs 14 (fun k => some (ad k 0))], (stW ty a r x y g), (hsW ty ad ur ux uy ug), [la ty ot 1 of]]) [5, 0, 1, 2, 3, 4] 6 rfl (by decide +kernel) rfl) hD
      refine vx_catch (own := RL) (name := EIS) (E := EIS) hown [⟨0, 9, 12, 13⟩] ⟨0, 9, 15, 15⟩ [] (ht0.trans rfl) (List.forall_mem_cons.mpr ⟨Or.inr ⟨by decide, _, (hts (Cond.classLink RL 13 "java/lang/IllegalArgumentException") (List.mem_of_getElem? (i := 1) rfl)), hX.1.2.2.2.1.1.2.2.1⟩, (fun z hz => absurd hz List.not_mem_nil)⟩) (by decide) (by decide) (hts (Cond.classLink RL 15 "java/lang/IllegalStateException") (List.mem_of_getElem? (i := 2) rfl)) (va_Nw.use rfl hX.1.2.2.1.2.1) hce hcv hcl ?_
      refine lv_astore_n (lv' := [(3, .ref q9), (0, .ref bc), (1, .int v9), (2, .ref ot)]) hx hb dL_correct_15 rfl hl (by decide) rfl (fun ls hl => ?_)
      refine lv_iconst (v := 2) hx hb dL_correct_16 (by decide) ?_
      have hP : va_P D vwCl (fl [[la ty ot 1 of], [ob bc 8 [.ref tx, .ref (a 0), .ref (b 0), .ref hi, .ref sl]], [ob hi 2 [.ref hs, .int (nI cn)]], [sa ty hs 14 (fun k => some (ad k 0))], (stW ty a r x y g), (hsW ty ad ur ux uy ug)]) H := hP
      have hD : va_D A (fl [[la ty ot 1 of], [ob bc 8 [.ref tx, .ref (a 0), .ref (b 0), .ref hi, .ref sl]], [ob hi 2 [.ref hs, .int (nI cn)]], [sa ty hs 14 (fun k => some (ad k 0))], (stW ty a r x y g), (hsW ty ad ur ux uy ug)]) := hD
      exact end_i (bs' := (fun (_ : Unit) => [[la ty ot 1 of], [ob bc 8 [.ref tx, .ref (a 0), .ref (b 0), .ref hi, .ref sl]], [ob hi 2 [.ref hs, .int (nI cn)]], [sa ty hs 14 (fun k => some (ad k 0))], (stW ty a r x y g), (hsW ty ad ur ux uy ug)])) () hx hb hr hlocks hP hD hS (by first | rfl | decide | simp []) (Nat.le_of_ble_eq_true rfl) (Nat.le_of_ble_eq_true rfl) dL_correct_17
  · exact absurd h9.2.2 hc1
set_option maxHeartbeats 4000000 in
set_option maxRecDepth 100000 in
theorem c_L_age (l : Launch) (D : va_G) (ty : Nat → ClassId) (v9 : Int32) (bc tx hi sl : Nat) (b : Nat → Nat) (a : Nat → Nat) (r : Nat → Int32) (x y : Int64) (g : Nat → Nat → Int32) (hs cn : Nat) (ad : Nat → Nat → Nat) (ur : Nat → Nat → Int32) (ux uy : Nat → Int64) (ug : Nat → Nat → Nat → Int32) (ot : Nat) (of : Nat → Int64) (hst : l.stackTraces = false) (hc : cn ≤ 14) (hc0 : inR v9 (-500) 500) : CTi l yL_age wsL_age ({ frames := 8, cells := 1, slots := 6, locals := 126 }) D ty [.ref bc, .int v9, .ref ot] [[la ty ot 1 of], [ob bc 8 [.ref tx, .ref (a 0), .ref (b 0), .ref hi, .ref sl]], [ob hi 2 [.ref hs, .int (nI cn)]], [sa ty hs 14 (fun k => some (ad k 0))], (stW ty a r x y g), (hsW ty ad ur ux uy ug)] (fun (RET : Int32) (_ : Unit) => RET = 0) (fun (_ : Unit) => [[la ty ot 1 (vp_updL of 0 (Int32.toInt64 (r 3)))], [ob bc 8 [.ref tx, .ref (a 0), .ref (b 0), .ref hi, .ref sl]], [ob hi 2 [.ref hs, .int (nI (remC cn))]], [sa ty hs 14 (fun k => some ((remA cn ad) k 0))], (stW ty a (upd r 3 v9) x y g), (hsW ty (remA cn ad) (remF cn ur r) (remF cn ux x) (remF cn uy y) (remF cn ug g))]) := by
  refine CTi_ofH cL_age 4 (some .int) [(0, 9, 12, 13)] (by decide) rfl (Nat.le_of_ble_eq_true rfl) ?_
  intro p e s m args below meth c A hx hb hr hml hown hlocks hin hts hA hX hK hP hD ht0 ls hl
  have hown : s.vm.findClass RL = some m.cls := hown
  have hS : va_S A s.heap s.heap [] := va_S.rf
  have hl : lv_has ls 4 [(0, .ref bc), (1, .int v9), (2, .ref ot)] := hl
  refine lv_aload_n hx hb dL_age_0 rfl (lv_at hl 2 rfl) ?_
  refine lv_iconst (v := 0) hx hb dL_age_1 (by decide) ?_
  refine lv_aload_n hx hb dL_age_2 rfl (lv_at hl 0 rfl) ?_
  refine lv_iload_n hx hb dL_age_3 rfl (lv_at hl 1 rfl) ?_
  refine cVxi (As := [.int v9]) (rest := [.int 0, .ref ot]) ⟨hx, hb, hml, hown, hts⟩ (c_X9_age l D ty v9 bc tx hi sl b a r x y g hs cn ad ur ux uy ug hst hc) (cwV 1 hts gL_age_X9_age rfl rfl rfl (by decide +kernel) ⟨Nat.le_of_ble_eq_true rfl, Nat.le_of_ble_eq_true rfl⟩) hK hX hP hD hS hA (pk (bs := [[la ty ot 1 of], [ob bc 8 [.ref tx, .ref (a 0), .ref (b 0), .ref hi, .ref sl]], [ob hi 2 [.ref hs, .int (nI cn)]], [sa ty hs 14 (fun k => some (ad k 0))], (stW ty a r x y g), (hsW ty ad ur ux uy ug)]) (bsc := [[ob bc 8 [.ref tx, .ref (a 0), .ref (b 0), .ref hi, .ref sl]], [ob hi 2 [.ref hs, .int (nI cn)]], [sa ty hs 14 (fun k => some (ad k 0))], (stW ty a r x y g), (hsW ty ad ur ux uy ug)]) (bsr := [[la ty ot 1 of]]) [1, 2, 3, 4, 5] [0] 6 rfl (by decide +kernel) rfl rfl) (ci := 8) rfl 0 rfl rfl hl.1 rfl (Nat.le_of_ble_eq_true rfl) dL_age_4 ⟨Nat.le_of_ble_eq_true rfl, Nat.le_of_ble_eq_true rfl⟩ (fun E hE ce q9 H locs hP hD hS hce hcv hcl => ?_) (fun r9 u9 h9 H locs hP hD hS => ?_)
  · skip
    obtain ⟨hEE, h0⟩ := hE
    exact absurd hc0 h0
  · skip
    have hP : va_P D vwCl (fl [[la ty ot 1 of], [ob bc 8 [.ref tx, .ref (a 0), .ref (b 0), .ref hi, .ref sl]], [ob hi 2 [.ref hs, .int (nI (remC cn))]], [sa ty hs 14 (fun k => some ((remA cn ad) k 0))], (stW ty a (upd r 3 v9) x y g), (hsW ty (remA cn ad) (remF cn ur r) (remF cn ux x) (remF cn uy y) (remF cn ug g))]) H := P_perm (po (bs := [[ob bc 8 [.ref tx, .ref (a 0), .ref (b 0), .ref hi, .ref sl]], [ob hi 2 [.ref hs, .int (nI (remC cn))]], [sa ty hs 14 (fun k => some ((remA cn ad) k 0))], (stW ty a (upd r 3 v9) x y g), (hsW ty (remA cn ad) (remF cn ur r) (remF cn ux x) (remF cn uy y) (remF cn ug g)), [la ty ot 1 of]]) [5, 0, 1, 2, 3, 4] 6 rfl (by decide +kernel) rfl) hP
    have hD : va_D A (fl [[la ty ot 1 of], [ob bc 8 [.ref tx, .ref (a 0), .ref (b 0), .ref hi, .ref sl]], [ob hi 2 [.ref hs, .int (nI (remC cn))]], [sa ty hs 14 (fun k => some ((remA cn ad) k 0))], (stW ty a (upd r 3 v9) x y g), (hsW ty (remA cn ad) (remF cn ur r) (remF cn ux x) (remF cn uy y) (remF cn ug g))]) := D_perm (po (bs := [[ob bc 8 [.ref tx, .ref (a 0), .ref (b 0), .ref hi, .ref sl]], [ob hi 2 [.ref hs, .int (nI (remC cn))]], [sa ty hs 14 (fun k => some ((remA cn ad) k 0))], (stW ty a (upd r 3 v9) x y g), (hsW ty (remA cn ad) (remF cn ur r) (remF cn ux x) (remF cn uy y) (remF cn ug g)), [la ty ot 1 of]]) [5, 0, 1, 2, 3, 4] 6 rfl (by decide +kernel) rfl) hD
    have h8 : r9 = (r 3) := h9.1
    subst h8
    refine lv_i2l (v := (Int32.toInt64 (r 3))) hx hb dL_age_7 rfl ?_
    refine k_last hx hb hK hP hD hS 0 rfl 0 rfl (by decide) (Nat.le_of_ble_eq_true rfl) dL_age_8 (fun H locs hP hD hS => ?_)
    have hP : va_P D vwCl (fl [[la ty ot 1 (vp_updL of 0 (Int32.toInt64 (r 3)))], [ob bc 8 [.ref tx, .ref (a 0), .ref (b 0), .ref hi, .ref sl]], [ob hi 2 [.ref hs, .int (nI (remC cn))]], [sa ty hs 14 (fun k => some ((remA cn ad) k 0))], (stW ty a (upd r 3 v9) x y g), (hsW ty (remA cn ad) (remF cn ur r) (remF cn ux x) (remF cn uy y) (remF cn ug g))]) H := hP
    have hD : va_D A (fl [[la ty ot 1 (vp_updL of 0 (Int32.toInt64 (r 3)))], [ob bc 8 [.ref tx, .ref (a 0), .ref (b 0), .ref hi, .ref sl]], [ob hi 2 [.ref hs, .int (nI (remC cn))]], [sa ty hs 14 (fun k => some ((remA cn ad) k 0))], (stW ty a (upd r 3 v9) x y g), (hsW ty (remA cn ad) (remF cn ur r) (remF cn ux x) (remF cn uy y) (remF cn ug g))]) := hD
    refine lv_goto (tgt := 15) hx hb dL_age_9 (by decide) ?_
    refine lv_iconst (v := 0) hx hb dL_age_15 (by decide) ?_
    have hP : va_P D vwCl (fl [[la ty ot 1 (vp_updL of 0 (Int32.toInt64 (r 3)))], [ob bc 8 [.ref tx, .ref (a 0), .ref (b 0), .ref hi, .ref sl]], [ob hi 2 [.ref hs, .int (nI (remC cn))]], [sa ty hs 14 (fun k => some ((remA cn ad) k 0))], (stW ty a (upd r 3 v9) x y g), (hsW ty (remA cn ad) (remF cn ur r) (remF cn ux x) (remF cn uy y) (remF cn ug g))]) H := hP
    have hD : va_D A (fl [[la ty ot 1 (vp_updL of 0 (Int32.toInt64 (r 3)))], [ob bc 8 [.ref tx, .ref (a 0), .ref (b 0), .ref hi, .ref sl]], [ob hi 2 [.ref hs, .int (nI (remC cn))]], [sa ty hs 14 (fun k => some ((remA cn ad) k 0))], (stW ty a (upd r 3 v9) x y g), (hsW ty (remA cn ad) (remF cn ur r) (remF cn ux x) (remF cn uy y) (remF cn ug g))]) := hD
    exact end_i (bs' := (fun (_ : Unit) => [[la ty ot 1 (vp_updL of 0 (Int32.toInt64 (r 3)))], [ob bc 8 [.ref tx, .ref (a 0), .ref (b 0), .ref hi, .ref sl]], [ob hi 2 [.ref hs, .int (nI (remC cn))]], [sa ty hs 14 (fun k => some ((remA cn ad) k 0))], (stW ty a (upd r 3 v9) x y g), (hsW ty (remA cn ad) (remF cn ur r) (remF cn ux x) (remF cn uy y) (remF cn ug g))])) () hx hb hr hlocks hP hD hS (by first | rfl | decide | simp []) (Nat.le_of_ble_eq_true rfl) (Nat.le_of_ble_eq_true rfl) dL_age_16
set_option maxHeartbeats 4000000 in
set_option maxRecDepth 100000 in
theorem c_L_age_n0 (l : Launch) (D : va_G) (ty : Nat → ClassId) (v9 : Int32) (bc tx hi sl : Nat) (b : Nat → Nat) (a : Nat → Nat) (r : Nat → Int32) (x y : Int64) (g : Nat → Nat → Int32) (hs cn : Nat) (ad : Nat → Nat → Nat) (ur : Nat → Nat → Int32) (ux uy : Nat → Int64) (ug : Nat → Nat → Nat → Int32) (ot : Nat) (of : Nat → Int64) (hst : l.stackTraces = false) (hc : cn ≤ 14) (hc0 : ¬ (inR v9 (-500) 500)) : CTi l yL_age wsL_age ({ frames := 8, cells := 1, slots := 6, locals := 126 }) D ty [.ref bc, .int v9, .ref ot] [[la ty ot 1 of], [ob bc 8 [.ref tx, .ref (a 0), .ref (b 0), .ref hi, .ref sl]], [ob hi 2 [.ref hs, .int (nI cn)]], [sa ty hs 14 (fun k => some (ad k 0))], (stW ty a r x y g), (hsW ty ad ur ux uy ug)] (fun (RET : Int32) (_ : Unit) => RET = 1) (fun (_ : Unit) => [[la ty ot 1 of], [ob bc 8 [.ref tx, .ref (a 0), .ref (b 0), .ref hi, .ref sl]], [ob hi 2 [.ref hs, .int (nI cn)]], [sa ty hs 14 (fun k => some (ad k 0))], (stW ty a r x y g), (hsW ty ad ur ux uy ug)]) := by
  refine CTi_ofH cL_age 4 (some .int) [(0, 9, 12, 13)] (by decide) rfl (Nat.le_of_ble_eq_true rfl) ?_
  intro p e s m args below meth c A hx hb hr hml hown hlocks hin hts hA hX hK hP hD ht0 ls hl
  have hown : s.vm.findClass RL = some m.cls := hown
  have hS : va_S A s.heap s.heap [] := va_S.rf
  have hl : lv_has ls 4 [(0, .ref bc), (1, .int v9), (2, .ref ot)] := hl
  refine lv_aload_n hx hb dL_age_0 rfl (lv_at hl 2 rfl) ?_
  refine lv_iconst (v := 0) hx hb dL_age_1 (by decide) ?_
  refine lv_aload_n hx hb dL_age_2 rfl (lv_at hl 0 rfl) ?_
  refine lv_iload_n hx hb dL_age_3 rfl (lv_at hl 1 rfl) ?_
  refine cVxi (As := [.int v9]) (rest := [.int 0, .ref ot]) ⟨hx, hb, hml, hown, hts⟩ (c_X9_age l D ty v9 bc tx hi sl b a r x y g hs cn ad ur ux uy ug hst hc) (cwV 1 hts gL_age_X9_age rfl rfl rfl (by decide +kernel) ⟨Nat.le_of_ble_eq_true rfl, Nat.le_of_ble_eq_true rfl⟩) hK hX hP hD hS hA (pk (bs := [[la ty ot 1 of], [ob bc 8 [.ref tx, .ref (a 0), .ref (b 0), .ref hi, .ref sl]], [ob hi 2 [.ref hs, .int (nI cn)]], [sa ty hs 14 (fun k => some (ad k 0))], (stW ty a r x y g), (hsW ty ad ur ux uy ug)]) (bsc := [[ob bc 8 [.ref tx, .ref (a 0), .ref (b 0), .ref hi, .ref sl]], [ob hi 2 [.ref hs, .int (nI cn)]], [sa ty hs 14 (fun k => some (ad k 0))], (stW ty a r x y g), (hsW ty ad ur ux uy ug)]) (bsr := [[la ty ot 1 of]]) [1, 2, 3, 4, 5] [0] 6 rfl (by decide +kernel) rfl rfl) (ci := 8) rfl 0 rfl rfl hl.1 rfl (Nat.le_of_ble_eq_true rfl) dL_age_4 ⟨Nat.le_of_ble_eq_true rfl, Nat.le_of_ble_eq_true rfl⟩ (fun E hE ce q9 H locs hP hD hS hce hcv hcl => ?_) (fun r9 u9 h9 H locs hP hD hS => ?_)
  · skip
    obtain ⟨hEE, h0⟩ := hE
    subst hEE
    have hP : va_P D vwCl (fl [[la ty ot 1 of], [ob bc 8 [.ref tx, .ref (a 0), .ref (b 0), .ref hi, .ref sl]], [ob hi 2 [.ref hs, .int (nI cn)]], [sa ty hs 14 (fun k => some (ad k 0))], (stW ty a r x y g), (hsW ty ad ur ux uy ug)]) H := P_perm (po (bs := [[ob bc 8 [.ref tx, .ref (a 0), .ref (b 0), .ref hi, .ref sl]], [ob hi 2 [.ref hs, .int (nI cn)]], [sa ty hs 14 (fun k => some (ad k 0))], (stW ty a r x y g), (hsW ty ad ur ux uy ug), [la ty ot 1 of]]) [5, 0, 1, 2, 3, 4] 6 rfl (by decide +kernel) rfl) hP
    have hD : va_D A (fl [[la ty ot 1 of], [ob bc 8 [.ref tx, .ref (a 0), .ref (b 0), .ref hi, .ref sl]], [ob hi 2 [.ref hs, .int (nI cn)]], [sa ty hs 14 (fun k => some (ad k 0))], (stW ty a r x y g), (hsW ty ad ur ux uy ug)]) := D_perm (po (bs := [[ob bc 8 [.ref tx, .ref (a 0), .ref (b 0), .ref hi, .ref sl]], [ob hi 2 [.ref hs, .int (nI cn)]], [sa ty hs 14 (fun k => some (ad k 0))], (stW ty a r x y g), (hsW ty ad ur ux uy ug), [la ty ot 1 of]]) [5, 0, 1, 2, 3, 4] 6 rfl (by decide +kernel) rfl) hD
    refine vx_catch (own := RL) (name := EIA) (E := EIA) hown [] ⟨0, 9, 12, 13⟩ [] (ht0.trans rfl) (fun z hz => by cases hz) (by decide) (by decide) (hts (Cond.classLink RL 13 "java/lang/IllegalArgumentException") (List.mem_of_getElem? (i := 1) rfl)) (va_Nw.use rfl hX.1.2.2.1.1) hce hcv hcl ?_
    refine lv_astore_n (lv' := [(3, .ref q9), (0, .ref bc), (1, .int v9), (2, .ref ot)]) hx hb dL_age_12 rfl hl (by decide) rfl (fun ls hl => ?_)
    refine lv_iconst (v := 1) hx hb dL_age_13 (by decide) ?_
    have hP : va_P D vwCl (fl [[la ty ot 1 of], [ob bc 8 [.ref tx, .ref (a 0), .ref (b 0), .ref hi, .ref sl]], [ob hi 2 [.ref hs, .int (nI cn)]], [sa ty hs 14 (fun k => some (ad k 0))], (stW ty a r x y g), (hsW ty ad ur ux uy ug)]) H := hP
    have hD : va_D A (fl [[la ty ot 1 of], [ob bc 8 [.ref tx, .ref (a 0), .ref (b 0), .ref hi, .ref sl]], [ob hi 2 [.ref hs, .int (nI cn)]], [sa ty hs 14 (fun k => some (ad k 0))], (stW ty a r x y g), (hsW ty ad ur ux uy ug)]) := hD
    exact end_i (bs' := (fun (_ : Unit) => [[la ty ot 1 of], [ob bc 8 [.ref tx, .ref (a 0), .ref (b 0), .ref hi, .ref sl]], [ob hi 2 [.ref hs, .int (nI cn)]], [sa ty hs 14 (fun k => some (ad k 0))], (stW ty a r x y g), (hsW ty ad ur ux uy ug)])) () hx hb hr hlocks hP hD hS (by first | rfl | decide | simp []) (Nat.le_of_ble_eq_true rfl) (Nat.le_of_ble_eq_true rfl) dL_age_14
  · exact absurd h9.2 hc0
set_option maxHeartbeats 4000000 in
set_option maxRecDepth 100000 in
theorem c_L_write (l : Launch) (D : va_G) (ty : Nat → ClassId) (i9 v9 : Int32) (bc tx hi sl : Nat) (b : Nat → Nat) (a : Nat → Nat) (r : Nat → Int32) (x y : Int64) (g : Nat → Nat → Int32) (hs cn : Nat) (ad : Nat → Nat → Nat) (ur : Nat → Nat → Int32) (ux uy : Nat → Int64) (ug : Nat → Nat → Nat → Int32) (ot : Nat) (of : Nat → Int64) (hst : l.stackTraces = false) (hc : cn ≤ 14) (hc0 : inI i9 8) (hc1 : inR v9 0 255) (hc2 : pdom r = 0) : CTi l yL_write wsL_write ({ frames := 8, cells := 3, slots := 18, locals := 127 }) D ty [.ref bc, .int i9, .int v9, .ref ot] [[la ty ot 1 of], [ob bc 8 [.ref tx, .ref (a 0), .ref (b 0), .ref hi, .ref sl]], [ob hi 2 [.ref hs, .int (nI cn)]], [sa ty hs 14 (fun k => some (ad k 0))], (stW ty a r x y g), (hsW ty ad ur ux uy ug)] (fun (RET : Int32) (_ : Unit) => RET = 0) (fun (_ : Unit) => [[la ty ot 1 (vp_updL of 0 (Int32.toInt64 (r (16 + i9.toNatClampNeg))))], [ob bc 8 [.ref tx, .ref (a 0), .ref (b 0), .ref hi, .ref sl]], [ob hi 2 [.ref hs, .int (nI (remC cn))]], [sa ty hs 14 (fun k => some ((remA cn ad) k 0))], (stW ty a (upd r (16 + i9.toNatClampNeg) v9) x y g), (hsW ty (remA cn ad) (remF cn ur r) (remF cn ux x) (remF cn uy y) (remF cn ug g))]) := by
  refine CTi_ofH cL_write 5 (some .int) [(0, 10, 13, 31), (0, 10, 17, 13), (0, 10, 21, 15)] (by decide) rfl (Nat.le_of_ble_eq_true rfl) ?_
  intro p e s m args below meth c A hx hb hr hml hown hlocks hin hts hA hX hK hP hD ht0 ls hl
  have hown : s.vm.findClass RL = some m.cls := hown
  have hS : va_S A s.heap s.heap [] := va_S.rf
  have hl : lv_has ls 5 [(0, .ref bc), (1, .int i9), (2, .int v9), (3, .ref ot)] := hl
  refine lv_aload_n hx hb dL_write_0 rfl (lv_at hl 3 rfl) ?_
  refine lv_iconst (v := 0) hx hb dL_write_1 (by decide) ?_
  refine lv_aload_n hx hb dL_write_2 rfl (lv_at hl 0 rfl) ?_
  refine lv_iload_n hx hb dL_write_3 rfl (lv_at hl 1 rfl) ?_
  refine lv_iload_n hx hb dL_write_4 rfl (lv_at hl 2 rfl) ?_
  refine cVxi (As := [.int i9, .int v9]) (rest := [.int 0, .ref ot]) ⟨hx, hb, hml, hown, hts⟩ (c_X9_write l D ty i9 v9 bc tx hi sl b a r x y g hs cn ad ur ux uy ug hst hc) (cwV 2 hts gL_write_X9_write rfl rfl rfl (by decide +kernel) ⟨Nat.le_of_ble_eq_true rfl, Nat.le_of_ble_eq_true rfl⟩) hK hX hP hD hS hA (pk (bs := [[la ty ot 1 of], [ob bc 8 [.ref tx, .ref (a 0), .ref (b 0), .ref hi, .ref sl]], [ob hi 2 [.ref hs, .int (nI cn)]], [sa ty hs 14 (fun k => some (ad k 0))], (stW ty a r x y g), (hsW ty ad ur ux uy ug)]) (bsc := [[ob bc 8 [.ref tx, .ref (a 0), .ref (b 0), .ref hi, .ref sl]], [ob hi 2 [.ref hs, .int (nI cn)]], [sa ty hs 14 (fun k => some (ad k 0))], (stW ty a r x y g), (hsW ty ad ur ux uy ug)]) (bsr := [[la ty ot 1 of]]) [1, 2, 3, 4, 5] [0] 6 rfl (by decide +kernel) rfl rfl) (ci := 8) rfl 0 rfl rfl hl.1 rfl (Nat.le_of_ble_eq_true rfl) dL_write_5 ⟨Nat.le_of_ble_eq_true rfl, Nat.le_of_ble_eq_true rfl⟩ (fun E hE ce q9 H locs hP hD hS hce hcv hcl => ?_) (fun r9 u9 h9 H locs hP hD hS => ?_)
  · skip
    rcases hE with ⟨hEE, h0⟩ | ⟨hEE, k0, h1⟩ | ⟨hEE, k0, k1, h2⟩
    · skip
      exact absurd hc0 h0
    · skip
      exact absurd hc1 h1
    · skip
      exact absurd hc2 h2
  · skip
    have hP : va_P D vwCl (fl [[la ty ot 1 of], [ob bc 8 [.ref tx, .ref (a 0), .ref (b 0), .ref hi, .ref sl]], [ob hi 2 [.ref hs, .int (nI (remC cn))]], [sa ty hs 14 (fun k => some ((remA cn ad) k 0))], (stW ty a (upd r (16 + i9.toNatClampNeg) v9) x y g), (hsW ty (remA cn ad) (remF cn ur r) (remF cn ux x) (remF cn uy y) (remF cn ug g))]) H := P_perm (po (bs := [[ob bc 8 [.ref tx, .ref (a 0), .ref (b 0), .ref hi, .ref sl]], [ob hi 2 [.ref hs, .int (nI (remC cn))]], [sa ty hs 14 (fun k => some ((remA cn ad) k 0))], (stW ty a (upd r (16 + i9.toNatClampNeg) v9) x y g), (hsW ty (remA cn ad) (remF cn ur r) (remF cn ux x) (remF cn uy y) (remF cn ug g)), [la ty ot 1 of]]) [5, 0, 1, 2, 3, 4] 6 rfl (by decide +kernel) rfl) hP
    have hD : va_D A (fl [[la ty ot 1 of], [ob bc 8 [.ref tx, .ref (a 0), .ref (b 0), .ref hi, .ref sl]], [ob hi 2 [.ref hs, .int (nI (remC cn))]], [sa ty hs 14 (fun k => some ((remA cn ad) k 0))], (stW ty a (upd r (16 + i9.toNatClampNeg) v9) x y g), (hsW ty (remA cn ad) (remF cn ur r) (remF cn ux x) (remF cn uy y) (remF cn ug g))]) := D_perm (po (bs := [[ob bc 8 [.ref tx, .ref (a 0), .ref (b 0), .ref hi, .ref sl]], [ob hi 2 [.ref hs, .int (nI (remC cn))]], [sa ty hs 14 (fun k => some ((remA cn ad) k 0))], (stW ty a (upd r (16 + i9.toNatClampNeg) v9) x y g), (hsW ty (remA cn ad) (remF cn ur r) (remF cn ux x) (remF cn uy y) (remF cn ug g)), [la ty ot 1 of]]) [5, 0, 1, 2, 3, 4] 6 rfl (by decide +kernel) rfl) hD
    have h8 : r9 = (r (16 + i9.toNatClampNeg)) := h9.1
    subst h8
    refine lv_i2l (v := (Int32.toInt64 (r (16 + i9.toNatClampNeg)))) hx hb dL_write_8 rfl ?_
    refine k_last hx hb hK hP hD hS 0 rfl 0 rfl (by decide) (Nat.le_of_ble_eq_true rfl) dL_write_9 (fun H locs hP hD hS => ?_)
    have hP : va_P D vwCl (fl [[la ty ot 1 (vp_updL of 0 (Int32.toInt64 (r (16 + i9.toNatClampNeg))))], [ob bc 8 [.ref tx, .ref (a 0), .ref (b 0), .ref hi, .ref sl]], [ob hi 2 [.ref hs, .int (nI (remC cn))]], [sa ty hs 14 (fun k => some ((remA cn ad) k 0))], (stW ty a (upd r (16 + i9.toNatClampNeg) v9) x y g), (hsW ty (remA cn ad) (remF cn ur r) (remF cn ux x) (remF cn uy y) (remF cn ug g))]) H := hP
    have hD : va_D A (fl [[la ty ot 1 (vp_updL of 0 (Int32.toInt64 (r (16 + i9.toNatClampNeg))))], [ob bc 8 [.ref tx, .ref (a 0), .ref (b 0), .ref hi, .ref sl]], [ob hi 2 [.ref hs, .int (nI (remC cn))]], [sa ty hs 14 (fun k => some ((remA cn ad) k 0))], (stW ty a (upd r (16 + i9.toNatClampNeg) v9) x y g), (hsW ty (remA cn ad) (remF cn ur r) (remF cn ux x) (remF cn uy y) (remF cn ug g))]) := hD
    refine lv_goto (tgt := 25) hx hb dL_write_10 (by decide) ?_
    refine lv_iconst (v := 0) hx hb dL_write_25 (by decide) ?_
    have hP : va_P D vwCl (fl [[la ty ot 1 (vp_updL of 0 (Int32.toInt64 (r (16 + i9.toNatClampNeg))))], [ob bc 8 [.ref tx, .ref (a 0), .ref (b 0), .ref hi, .ref sl]], [ob hi 2 [.ref hs, .int (nI (remC cn))]], [sa ty hs 14 (fun k => some ((remA cn ad) k 0))], (stW ty a (upd r (16 + i9.toNatClampNeg) v9) x y g), (hsW ty (remA cn ad) (remF cn ur r) (remF cn ux x) (remF cn uy y) (remF cn ug g))]) H := hP
    have hD : va_D A (fl [[la ty ot 1 (vp_updL of 0 (Int32.toInt64 (r (16 + i9.toNatClampNeg))))], [ob bc 8 [.ref tx, .ref (a 0), .ref (b 0), .ref hi, .ref sl]], [ob hi 2 [.ref hs, .int (nI (remC cn))]], [sa ty hs 14 (fun k => some ((remA cn ad) k 0))], (stW ty a (upd r (16 + i9.toNatClampNeg) v9) x y g), (hsW ty (remA cn ad) (remF cn ur r) (remF cn ux x) (remF cn uy y) (remF cn ug g))]) := hD
    exact end_i (bs' := (fun (_ : Unit) => [[la ty ot 1 (vp_updL of 0 (Int32.toInt64 (r (16 + i9.toNatClampNeg))))], [ob bc 8 [.ref tx, .ref (a 0), .ref (b 0), .ref hi, .ref sl]], [ob hi 2 [.ref hs, .int (nI (remC cn))]], [sa ty hs 14 (fun k => some ((remA cn ad) k 0))], (stW ty a (upd r (16 + i9.toNatClampNeg) v9) x y g), (hsW ty (remA cn ad) (remF cn ur r) (remF cn ux x) (remF cn uy y) (remF cn ug g))])) () hx hb hr hlocks hP hD hS (by first | rfl | decide | simp []) (Nat.le_of_ble_eq_true rfl) (Nat.le_of_ble_eq_true rfl) dL_write_26
set_option maxHeartbeats 4000000 in
set_option maxRecDepth 100000 in
theorem c_L_write_n0 (l : Launch) (D : va_G) (ty : Nat → ClassId) (i9 v9 : Int32) (bc tx hi sl : Nat) (b : Nat → Nat) (a : Nat → Nat) (r : Nat → Int32) (x y : Int64) (g : Nat → Nat → Int32) (hs cn : Nat) (ad : Nat → Nat → Nat) (ur : Nat → Nat → Int32) (ux uy : Nat → Int64) (ug : Nat → Nat → Nat → Int32) (ot : Nat) (of : Nat → Int64) (hst : l.stackTraces = false) (hc : cn ≤ 14) (hc0 : ¬ (inI i9 8)) : CTi l yL_write wsL_write ({ frames := 8, cells := 3, slots := 18, locals := 127 }) D ty [.ref bc, .int i9, .int v9, .ref ot] [[la ty ot 1 of], [ob bc 8 [.ref tx, .ref (a 0), .ref (b 0), .ref hi, .ref sl]], [ob hi 2 [.ref hs, .int (nI cn)]], [sa ty hs 14 (fun k => some (ad k 0))], (stW ty a r x y g), (hsW ty ad ur ux uy ug)] (fun (RET : Int32) (_ : Unit) => RET = 1) (fun (_ : Unit) => [[la ty ot 1 of], [ob bc 8 [.ref tx, .ref (a 0), .ref (b 0), .ref hi, .ref sl]], [ob hi 2 [.ref hs, .int (nI cn)]], [sa ty hs 14 (fun k => some (ad k 0))], (stW ty a r x y g), (hsW ty ad ur ux uy ug)]) := by
  refine CTi_ofH cL_write 5 (some .int) [(0, 10, 13, 31), (0, 10, 17, 13), (0, 10, 21, 15)] (by decide) rfl (Nat.le_of_ble_eq_true rfl) ?_
  intro p e s m args below meth c A hx hb hr hml hown hlocks hin hts hA hX hK hP hD ht0 ls hl
  have hown : s.vm.findClass RL = some m.cls := hown
  have hS : va_S A s.heap s.heap [] := va_S.rf
  have hl : lv_has ls 5 [(0, .ref bc), (1, .int i9), (2, .int v9), (3, .ref ot)] := hl
  refine lv_aload_n hx hb dL_write_0 rfl (lv_at hl 3 rfl) ?_
  refine lv_iconst (v := 0) hx hb dL_write_1 (by decide) ?_
  refine lv_aload_n hx hb dL_write_2 rfl (lv_at hl 0 rfl) ?_
  refine lv_iload_n hx hb dL_write_3 rfl (lv_at hl 1 rfl) ?_
  refine lv_iload_n hx hb dL_write_4 rfl (lv_at hl 2 rfl) ?_
  refine cVxi (As := [.int i9, .int v9]) (rest := [.int 0, .ref ot]) ⟨hx, hb, hml, hown, hts⟩ (c_X9_write l D ty i9 v9 bc tx hi sl b a r x y g hs cn ad ur ux uy ug hst hc) (cwV 2 hts gL_write_X9_write rfl rfl rfl (by decide +kernel) ⟨Nat.le_of_ble_eq_true rfl, Nat.le_of_ble_eq_true rfl⟩) hK hX hP hD hS hA (pk (bs := [[la ty ot 1 of], [ob bc 8 [.ref tx, .ref (a 0), .ref (b 0), .ref hi, .ref sl]], [ob hi 2 [.ref hs, .int (nI cn)]], [sa ty hs 14 (fun k => some (ad k 0))], (stW ty a r x y g), (hsW ty ad ur ux uy ug)]) (bsc := [[ob bc 8 [.ref tx, .ref (a 0), .ref (b 0), .ref hi, .ref sl]], [ob hi 2 [.ref hs, .int (nI cn)]], [sa ty hs 14 (fun k => some (ad k 0))], (stW ty a r x y g), (hsW ty ad ur ux uy ug)]) (bsr := [[la ty ot 1 of]]) [1, 2, 3, 4, 5] [0] 6 rfl (by decide +kernel) rfl rfl) (ci := 8) rfl 0 rfl rfl hl.1 rfl (Nat.le_of_ble_eq_true rfl) dL_write_5 ⟨Nat.le_of_ble_eq_true rfl, Nat.le_of_ble_eq_true rfl⟩ (fun E hE ce q9 H locs hP hD hS hce hcv hcl => ?_) (fun r9 u9 h9 H locs hP hD hS => ?_)
  · skip
    rcases hE with ⟨hEE, h0⟩ | ⟨hEE, k0, h1⟩ | ⟨hEE, k0, k1, h2⟩
    · skip
      subst hEE
      have hP : va_P D vwCl (fl [[la ty ot 1 of], [ob bc 8 [.ref tx, .ref (a 0), .ref (b 0), .ref hi, .ref sl]], [ob hi 2 [.ref hs, .int (nI cn)]], [sa ty hs 14 (fun k => some (ad k 0))], (stW ty a r x y g), (hsW ty ad ur ux uy ug)]) H := P_perm (po (bs := [[ob bc 8 [.ref tx, .ref (a 0), .ref (b 0), .ref hi, .ref sl]], [ob hi 2 [.ref hs, .int (nI cn)]], [sa ty hs 14 (fun k => some (ad k 0))], (stW ty a r x y g), (hsW ty ad ur ux uy ug), [la ty ot 1 of]]) [5, 0, 1, 2, 3, 4] 6 rfl (by decide +kernel) rfl) hP
      have hD : va_D A (fl [[la ty ot 1 of], [ob bc 8 [.ref tx, .ref (a 0), .ref (b 0), .ref hi, .ref sl]], [ob hi 2 [.ref hs, .int (nI cn)]], [sa ty hs 14 (fun k => some (ad k 0))], (stW ty a r x y g), (hsW ty ad ur ux uy ug)]) := D_perm (po (bs := [[ob bc 8 [.ref tx, .ref (a 0), .ref (b 0), .ref hi, .ref sl]], [ob hi 2 [.ref hs, .int (nI cn)]], [sa ty hs 14 (fun k => some (ad k 0))], (stW ty a r x y g), (hsW ty ad ur ux uy ug), [la ty ot 1 of]]) [5, 0, 1, 2, 3, 4] 6 rfl (by decide +kernel) rfl) hD
      refine vx_catch (own := RL) (name := EIO) (E := EIO) hown [] ⟨0, 10, 13, 31⟩ [⟨0, 10, 17, 13⟩, ⟨0, 10, 21, 15⟩] (ht0.trans rfl) (fun z hz => by cases hz) (by decide) (by decide) (hts (Cond.classLink RL 31 "java/lang/IndexOutOfBoundsException") (List.mem_of_getElem? (i := 1) rfl)) (va_Nw.use rfl hX.1.2.2.1.2.2) hce hcv hcl ?_
      refine lv_astore (lv' := [(4, .ref q9), (0, .ref bc), (1, .int i9), (2, .int v9), (3, .ref ot)]) hx hb dL_write_13 hl (by decide) rfl (fun ls hl => ?_)
      refine lv_iconst (v := 1) hx hb dL_write_15 (by decide) ?_
      have hP : va_P D vwCl (fl [[la ty ot 1 of], [ob bc 8 [.ref tx, .ref (a 0), .ref (b 0), .ref hi, .ref sl]], [ob hi 2 [.ref hs, .int (nI cn)]], [sa ty hs 14 (fun k => some (ad k 0))], (stW ty a r x y g), (hsW ty ad ur ux uy ug)]) H := hP
      have hD : va_D A (fl [[la ty ot 1 of], [ob bc 8 [.ref tx, .ref (a 0), .ref (b 0), .ref hi, .ref sl]], [ob hi 2 [.ref hs, .int (nI cn)]], [sa ty hs 14 (fun k => some (ad k 0))], (stW ty a r x y g), (hsW ty ad ur ux uy ug)]) := hD
      exact end_i (bs' := (fun (_ : Unit) => [[la ty ot 1 of], [ob bc 8 [.ref tx, .ref (a 0), .ref (b 0), .ref hi, .ref sl]], [ob hi 2 [.ref hs, .int (nI cn)]], [sa ty hs 14 (fun k => some (ad k 0))], (stW ty a r x y g), (hsW ty ad ur ux uy ug)])) () hx hb hr hlocks hP hD hS (by first | rfl | decide | simp []) (Nat.le_of_ble_eq_true rfl) (Nat.le_of_ble_eq_true rfl) dL_write_16
    · skip
      exact absurd k0 hc0
    · skip
      exact absurd k0 hc0
  · exact absurd h9.2.1 hc0
set_option maxHeartbeats 4000000 in
set_option maxRecDepth 100000 in
theorem c_L_write_n1 (l : Launch) (D : va_G) (ty : Nat → ClassId) (i9 v9 : Int32) (bc tx hi sl : Nat) (b : Nat → Nat) (a : Nat → Nat) (r : Nat → Int32) (x y : Int64) (g : Nat → Nat → Int32) (hs cn : Nat) (ad : Nat → Nat → Nat) (ur : Nat → Nat → Int32) (ux uy : Nat → Int64) (ug : Nat → Nat → Nat → Int32) (ot : Nat) (of : Nat → Int64) (hst : l.stackTraces = false) (hc : cn ≤ 14) (hc0 : inI i9 8) (hc1 : ¬ (inR v9 0 255)) : CTi l yL_write wsL_write ({ frames := 8, cells := 3, slots := 18, locals := 127 }) D ty [.ref bc, .int i9, .int v9, .ref ot] [[la ty ot 1 of], [ob bc 8 [.ref tx, .ref (a 0), .ref (b 0), .ref hi, .ref sl]], [ob hi 2 [.ref hs, .int (nI cn)]], [sa ty hs 14 (fun k => some (ad k 0))], (stW ty a r x y g), (hsW ty ad ur ux uy ug)] (fun (RET : Int32) (_ : Unit) => RET = 2) (fun (_ : Unit) => [[la ty ot 1 of], [ob bc 8 [.ref tx, .ref (a 0), .ref (b 0), .ref hi, .ref sl]], [ob hi 2 [.ref hs, .int (nI cn)]], [sa ty hs 14 (fun k => some (ad k 0))], (stW ty a r x y g), (hsW ty ad ur ux uy ug)]) := by
  refine CTi_ofH cL_write 5 (some .int) [(0, 10, 13, 31), (0, 10, 17, 13), (0, 10, 21, 15)] (by decide) rfl (Nat.le_of_ble_eq_true rfl) ?_
  intro p e s m args below meth c A hx hb hr hml hown hlocks hin hts hA hX hK hP hD ht0 ls hl
  have hown : s.vm.findClass RL = some m.cls := hown
  have hS : va_S A s.heap s.heap [] := va_S.rf
  have hl : lv_has ls 5 [(0, .ref bc), (1, .int i9), (2, .int v9), (3, .ref ot)] := hl
  refine lv_aload_n hx hb dL_write_0 rfl (lv_at hl 3 rfl) ?_
  refine lv_iconst (v := 0) hx hb dL_write_1 (by decide) ?_
  refine lv_aload_n hx hb dL_write_2 rfl (lv_at hl 0 rfl) ?_
  refine lv_iload_n hx hb dL_write_3 rfl (lv_at hl 1 rfl) ?_
  refine lv_iload_n hx hb dL_write_4 rfl (lv_at hl 2 rfl) ?_
  refine cVxi (As := [.int i9, .int v9]) (rest := [.int 0, .ref ot]) ⟨hx, hb, hml, hown, hts⟩ (c_X9_write l D ty i9 v9 bc tx hi sl b a r x y g hs cn ad ur ux uy ug hst hc) (cwV 2 hts gL_write_X9_write rfl rfl rfl (by decide +kernel) ⟨Nat.le_of_ble_eq_true rfl, Nat.le_of_ble_eq_true rfl⟩) hK hX hP hD hS hA (pk (bs := [[la ty ot 1 of], [ob bc 8 [.ref tx, .ref (a 0), .ref (b 0), .ref hi, .ref sl]], [ob hi 2 [.ref hs, .int (nI cn)]], [sa ty hs 14 (fun k => some (ad k 0))], (stW ty a r x y g), (hsW ty ad ur ux uy ug)]) (bsc := [[ob bc 8 [.ref tx, .ref (a 0), .ref (b 0), .ref hi, .ref sl]], [ob hi 2 [.ref hs, .int (nI cn)]], [sa ty hs 14 (fun k => some (ad k 0))], (stW ty a r x y g), (hsW ty ad ur ux uy ug)]) (bsr := [[la ty ot 1 of]]) [1, 2, 3, 4, 5] [0] 6 rfl (by decide +kernel) rfl rfl) (ci := 8) rfl 0 rfl rfl hl.1 rfl (Nat.le_of_ble_eq_true rfl) dL_write_5 ⟨Nat.le_of_ble_eq_true rfl, Nat.le_of_ble_eq_true rfl⟩ (fun E hE ce q9 H locs hP hD hS hce hcv hcl => ?_) (fun r9 u9 h9 H locs hP hD hS => ?_)
  · skip
    rcases hE with ⟨hEE, h0⟩ | ⟨hEE, k0, h1⟩ | ⟨hEE, k0, k1, h2⟩
    · skip
      exact absurd hc0 h0
    · skip
      subst hEE
      have hP : va_P D vwCl (fl [[la ty ot 1 of], [ob bc 8 [.ref tx, .ref (a 0), .ref (b 0), .ref hi, .ref sl]], [ob hi 2 [.ref hs, .int (nI cn)]], [sa ty hs 14 (fun k => some (ad k 0))], (stW ty a r x y g), (hsW ty ad ur ux uy ug)]) H := P_perm (po (bs := [[ob bc 8 [.ref tx, .ref (a 0), .ref (b 0), .ref hi, .ref sl]], [ob hi 2 [.ref hs, .int (nI cn)]], [sa ty hs 14 (fun k => some (ad k 0))], (stW ty a r x y g), (hsW ty ad ur ux uy ug), [la ty ot 1 of]]) [5, 0, 1, 2, 3, 4] 6 rfl (by decide +kernel) rfl) hP
      have hD : va_D A (fl [[la ty ot 1 of], [ob bc 8 [.ref tx, .ref (a 0), .ref (b 0), .ref hi, .ref sl]], [ob hi 2 [.ref hs, .int (nI cn)]], [sa ty hs 14 (fun k => some (ad k 0))], (stW ty a r x y g), (hsW ty ad ur ux uy ug)]) := D_perm (po (bs := [[ob bc 8 [.ref tx, .ref (a 0), .ref (b 0), .ref hi, .ref sl]], [ob hi 2 [.ref hs, .int (nI cn)]], [sa ty hs 14 (fun k => some (ad k 0))], (stW ty a r x y g), (hsW ty ad ur ux uy ug), [la ty ot 1 of]]) [5, 0, 1, 2, 3, 4] 6 rfl (by decide +kernel) rfl) hD
      refine vx_catch (own := RL) (name := EIA) (E := EIA) hown [⟨0, 10, 13, 31⟩] ⟨0, 10, 17, 13⟩ [⟨0, 10, 21, 15⟩] (ht0.trans rfl) (List.forall_mem_cons.mpr ⟨Or.inr ⟨by decide, _, (hts (Cond.classLink RL 31 "java/lang/IndexOutOfBoundsException") (List.mem_of_getElem? (i := 1) rfl)), hX.1.2.2.2.1.1.2.1⟩, (fun z hz => absurd hz List.not_mem_nil)⟩) (by decide) (by decide) (hts (Cond.classLink RL 13 "java/lang/IllegalArgumentException") (List.mem_of_getElem? (i := 2) rfl)) (va_Nw.use rfl hX.1.2.2.1.1) hce hcv hcl ?_
      refine lv_astore (lv' := [(4, .ref q9), (0, .ref bc), (1, .int i9), (2, .int v9), (3, .ref ot)]) hx hb dL_write_17 hl (by decide) rfl (fun ls hl => ?_)
      refine lv_iconst (v := 2) hx hb dL_write_19 (by decide) ?_
      have hP : va_P D vwCl (fl [[la ty ot 1 of], [ob bc 8 [.ref tx, .ref (a 0), .ref (b 0), .ref hi, .ref sl]], [ob hi 2 [.ref hs, .int (nI cn)]], [sa ty hs 14 (fun k => some (ad k 0))], (stW ty a r x y g), (hsW ty ad ur ux uy ug)]) H := hP
      have hD : va_D A (fl [[la ty ot 1 of], [ob bc 8 [.ref tx, .ref (a 0), .ref (b 0), .ref hi, .ref sl]], [ob hi 2 [.ref hs, .int (nI cn)]], [sa ty hs 14 (fun k => some (ad k 0))], (stW ty a r x y g), (hsW ty ad ur ux uy ug)]) := hD
      exact end_i (bs' := (fun (_ : Unit) => [[la ty ot 1 of], [ob bc 8 [.ref tx, .ref (a 0), .ref (b 0), .ref hi, .ref sl]], [ob hi 2 [.ref hs, .int (nI cn)]], [sa ty hs 14 (fun k => some (ad k 0))], (stW ty a r x y g), (hsW ty ad ur ux uy ug)])) () hx hb hr hlocks hP hD hS (by first | rfl | decide | simp []) (Nat.le_of_ble_eq_true rfl) (Nat.le_of_ble_eq_true rfl) dL_write_20
    · skip
      exact absurd k1 hc1
  · exact absurd h9.2.2.1 hc1
