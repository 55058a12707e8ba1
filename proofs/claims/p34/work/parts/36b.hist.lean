set_option maxHeartbeats 4000000 in
set_option maxRecDepth 100000 in
theorem c_X2_forget (l : Launch) (D : va_G) (ty : Nat → ClassId) (h hs : Nat) (cv : Int32) : CTv l yX2_forget wsX2_forget ({ frames := 0, cells := 0, slots := 0, locals := 0 }) D ty [.ref h] [[ob h 2 [.ref hs, .int cv]]] (fun (_ : Unit) => True) (fun (_ : Unit) => [[ob h 2 [.ref hs, .int 0]]]) := by
  refine CTv_of cX2_forget 1 none (by decide) rfl (Nat.le_of_ble_eq_true rfl) ?_
  intro p e s m args below meth c A hx hb hr hml hown hlocks hin hts hA hX hK hP hD ls hl
  have hown : s.vm.findClass RX2 = some m.cls := hown
  have hS : va_S A s.heap s.heap [] := va_S.rf
  have i_X2 : ∀ z ∈ wsX20, z ∈ wsX2_forget := fun z h => List.mem_cons_of_mem _ (List.mem_append_right _ h)
  have hl : lv_has ls 1 [(0, .ref h)] := hl
  refine lv_aload_n hx hb dX2_forget_0 rfl (lv_at hl 0 rfl) ?_
  refine lv_iconst (v := 0) hx hb dX2_forget_1 (by decide) ?_
  refine va_put (D := D) (ci := 2) (v := .int 0) (ty := .int) (C := RX2) (T := TX2) (N := 2) hx hb hts i_X2 tyX2 tyX2_ok nmX2 hown hK hP hD hS 0 rfl rfl 1 (by decide) (hts (Cond.fieldLink RX2 18 "BrownClock$History" "count" "I") (List.mem_of_getElem? (i := 1) rfl)) (fun _ h9 => h9) rfl (by decide +kernel) rfl rfl (Nat.le_of_ble_eq_true rfl) dX2_forget_2 (fun H locs hP hD hS => ?_)
  have hP : va_P D vwCl (fl [[ob h 2 [.ref hs, .int 0]]]) H := hP
  have hD : va_D A (fl [[ob h 2 [.ref hs, .int 0]]]) := hD
  have hP : va_P D vwCl (fl [[ob h 2 [.ref hs, .int 0]]]) H := hP
  have hD : va_D A (fl [[ob h 2 [.ref hs, .int 0]]]) := hD
  exact end_v (bs' := (fun (_ : Unit) => [[ob h 2 [.ref hs, .int 0]]])) () hx hb hr hlocks hP hD hS trivial (Nat.le_of_ble_eq_true rfl) (Nat.le_of_ble_eq_true rfl) dX2_forget_5
set_option maxHeartbeats 4000000 in
set_option maxRecDepth 100000 in
theorem c_X2_takeBackInto (l : Launch) (D : va_G) (ty : Nat → ClassId) (h hs cm : Nat) (ad : Nat → Nat → Nat) (a : Nat → Nat) (r : Nat → Int32) (x y : Int64) (g : Nat → Nat → Int32) (ur : Nat → Nat → Int32) (ux uy : Nat → Int64) (ug : Nat → Nat → Nat → Int32) (hc : cm < 14) : CTv l yX2_takeBackInto wsX2_takeBackInto ({ frames := 3, cells := 0, slots := 0, locals := 75 }) D ty [.ref h, .ref (a 0)] [[ob h 2 [.ref hs, .int (nI (cm + 1))]], [sa ty hs 14 (fun k => some (ad k 0))], (stW ty a r x y g), (hsW ty ad ur ux uy ug)] (fun (_ : Unit) => True) (fun (_ : Unit) => [[ob h 2 [.ref hs, .int (nI cm)]], [sa ty hs 14 (fun k => some (ad k 0))], (stW ty a (ur cm) (ux cm) (uy cm) (ug cm)), (hsW ty ad ur ux uy ug)]) := by
  refine CTv_of cX2_takeBackInto 2 none (by decide) rfl (Nat.le_of_ble_eq_true rfl) ?_
  intro p e s m args below meth c A hx hb hr hml hown hlocks hin hts hA hX hK hP hD ls hl
  have hown : s.vm.findClass RX2 = some m.cls := hown
  have hS : va_S A s.heap s.heap [] := va_S.rf
  have i_X2 : ∀ z ∈ wsX20, z ∈ wsX2_takeBackInto := fun z h => List.mem_cons_of_mem _ (List.mem_append_left _ (List.mem_append_left _ (List.mem_append_left _ (List.mem_append_left _ (List.mem_append_left _ (List.mem_append_right _ h))))))
  have hl : lv_has ls 2 [(0, .ref h), (1, .ref (a 0))] := hl
  refine lv_aload_n hx hb dX2_takeBackInto_0 rfl (lv_at hl 0 rfl) ?_
  refine lv_dup hx hb dX2_takeBackInto_1 rfl ?_
  refine va_get (D := D) (ci := 2) (v := .int (nI (cm + 1))) (C := RX2) (T := TX2) (N := 2) hx hb hts i_X2 hown hK hP 0 rfl rfl 1 (by decide) (hts (Cond.fieldLink RX2 18 "BrownClock$History" "count" "I") (List.mem_of_getElem? (i := 1) rfl)) (fun _ h9 => h9) rfl dX2_takeBackInto_2 ?_
  refine lv_iconst (v := 1) hx hb dX2_takeBackInto_5 (by decide) ?_
  refine k_isub (v := (nI cm)) hx hb dX2_takeBackInto_6 (nI_pred cm) ?_
  refine va_put (D := D) (ci := 2) (v := .int (nI cm)) (ty := .int) (C := RX2) (T := TX2) (N := 2) hx hb hts i_X2 tyX2 tyX2_ok nmX2 hown hK hP hD hS 0 rfl rfl 1 (by decide) (hts (Cond.fieldLink RX2 18 "BrownClock$History" "count" "I") (List.mem_of_getElem? (i := 1) rfl)) (fun _ h9 => h9) rfl (by decide +kernel) rfl rfl (Nat.le_of_ble_eq_true rfl) dX2_takeBackInto_7 (fun H locs hP hD hS => ?_)
  have hP : va_P D vwCl (fl [[ob h 2 [.ref hs, .int (nI cm)]], [sa ty hs 14 (fun k => some (ad k 0))], (stW ty a r x y g), (hsW ty ad ur ux uy ug)]) H := hP
  have hD : va_D A (fl [[ob h 2 [.ref hs, .int (nI cm)]], [sa ty hs 14 (fun k => some (ad k 0))], (stW ty a r x y g), (hsW ty ad ur ux uy ug)]) := hD
  refine lv_aload_n hx hb dX2_takeBackInto_10 rfl (lv_at hl 1 rfl) ?_
  refine lv_aload_n hx hb dX2_takeBackInto_11 rfl (lv_at hl 0 rfl) ?_
  refine va_get (D := D) (ci := 2) (v := .ref hs) (C := RX2) (T := TX2) (N := 2) hx hb hts i_X2 hown hK hP 0 rfl rfl 0 (by decide) (hts (Cond.fieldLink RX2 11 "BrownClock$History" "states" "[LBrownClock$State;") (List.mem_of_getElem? (i := 2) rfl)) (fun _ h9 => h9) rfl dX2_takeBackInto_12 ?_
  refine lv_aload_n hx hb dX2_takeBackInto_15 rfl (lv_at hl 0 rfl) ?_
  refine va_get (D := D) (ci := 2) (v := .int (nI cm)) (C := RX2) (T := TX2) (N := 2) hx hb hts i_X2 hown hK hP 0 rfl rfl 1 (by decide) (hts (Cond.fieldLink RX2 18 "BrownClock$History" "count" "I") (List.mem_of_getElem? (i := 1) rfl)) (fun _ h9 => h9) rfl dX2_takeBackInto_16 ?_
  refine k_saald hx hb hK hP 1 rfl cm rfl hc (Nat.le_of_ble_eq_true rfl) (v := (ad cm 0)) rfl dX2_takeBackInto_19 ?_
  have hop := hs_open (ty := ty) (ad := ad) (hr := ur) (hx := ux) (hy := uy) (hg := ug) [[ob h 2 [.ref hs, .int (nI cm)]], [sa ty hs 14 (fun k => some (ad k 0))], (stW ty a r x y g)] cm hc
  have hP : va_P D vwCl (fl [[ob h 2 [.ref hs, .int (nI cm)]], [sa ty hs 14 (fun k => some (ad k 0))], (stW ty a r x y g), (stW ty (ad cm) (ur cm) (ux cm) (uy cm) (ug cm)), (hsR cm ty ad ur ux uy ug)]) H := P_perm hop hP
  have hD : va_D A (fl [[ob h 2 [.ref hs, .int (nI cm)]], [sa ty hs 14 (fun k => some (ad k 0))], (stW ty a r x y g), (stW ty (ad cm) (ur cm) (ux cm) (uy cm) (ug cm)), (hsR cm ty ad ur ux uy ug)]) := D_perm hop hD
  refine cVv (As := [.ref (ad cm 0)]) (rest := []) ⟨hx, hb, hml, hown, hts⟩ (c_X5_copyFrom l D ty a r x y g (ad cm) (ur cm) (ux cm) (uy cm) (ug cm)) (cwV 1 hts gX2_takeBackInto_X5_copyFrom rfl rfl rfl (by decide +kernel) ⟨Nat.le_of_ble_eq_true rfl, Nat.le_of_ble_eq_true rfl⟩) hK hX hP hD hS hA (pk (bs := [[ob h 2 [.ref hs, .int (nI cm)]], [sa ty hs 14 (fun k => some (ad k 0))], (stW ty a r x y g), (stW ty (ad cm) (ur cm) (ux cm) (uy cm) (ug cm)), (hsR cm ty ad ur ux uy ug)]) (bsc := [(stW ty a r x y g), (stW ty (ad cm) (ur cm) (ux cm) (uy cm) (ug cm))]) (bsr := [[ob h 2 [.ref hs, .int (nI cm)]], [sa ty hs 14 (fun k => some (ad k 0))], (hsR cm ty ad ur ux uy ug)]) [2, 3] [0, 1, 4] 5 rfl (by decide +kernel) rfl rfl) (ci := 4) rfl 0 rfl rfl hl.1 rfl (Nat.le_of_ble_eq_true rfl) dX2_takeBackInto_20 ⟨Nat.le_of_ble_eq_true rfl, Nat.le_of_ble_eq_true rfl⟩ (fun u_1 h_3 H locs hP hD hS => ?_)
  have hP : va_P D vwCl (fl [[ob h 2 [.ref hs, .int (nI cm)]], [sa ty hs 14 (fun k => some (ad k 0))], (stW ty a (ur cm) (ux cm) (uy cm) (ug cm)), (stW ty (ad cm) (ur cm) (ux cm) (uy cm) (ug cm)), (hsR cm ty ad ur ux uy ug)]) H := P_perm (po (bs := [(stW ty a (ur cm) (ux cm) (uy cm) (ug cm)), (stW ty (ad cm) (ur cm) (ux cm) (uy cm) (ug cm)), [ob h 2 [.ref hs, .int (nI cm)]], [sa ty hs 14 (fun k => some (ad k 0))], (hsR cm ty ad ur ux uy ug)]) [2, 3, 0, 1, 4] 5 rfl (by decide +kernel) rfl) hP
  have hD : va_D A (fl [[ob h 2 [.ref hs, .int (nI cm)]], [sa ty hs 14 (fun k => some (ad k 0))], (stW ty a (ur cm) (ux cm) (uy cm) (ug cm)), (stW ty (ad cm) (ur cm) (ux cm) (uy cm) (ug cm)), (hsR cm ty ad ur ux uy ug)]) := D_perm (po (bs := [(stW ty a (ur cm) (ux cm) (uy cm) (ug cm)), (stW ty (ad cm) (ur cm) (ux cm) (uy cm) (ug cm)), [ob h 2 [.ref hs, .int (nI cm)]], [sa ty hs 14 (fun k => some (ad k 0))], (hsR cm ty ad ur ux uy ug)]) [2, 3, 0, 1, 4] 5 rfl (by decide +kernel) rfl) hD
  have hcl := (hs_open (ty := ty) (ad := ad) (hr := ur) (hx := ux) (hy := uy) (hg := ug) [[ob h 2 [.ref hs, .int (nI cm)]], [sa ty hs 14 (fun k => some (ad k 0))], (stW ty a (ur cm) (ux cm) (uy cm) (ug cm))] cm hc).symm
  have hP : va_P D vwCl (fl [[ob h 2 [.ref hs, .int (nI cm)]], [sa ty hs 14 (fun k => some (ad k 0))], (stW ty a (ur cm) (ux cm) (uy cm) (ug cm)), (hsW ty ad ur ux uy ug)]) H := P_perm hcl hP
  have hD : va_D A (fl [[ob h 2 [.ref hs, .int (nI cm)]], [sa ty hs 14 (fun k => some (ad k 0))], (stW ty a (ur cm) (ux cm) (uy cm) (ug cm)), (hsW ty ad ur ux uy ug)]) := D_perm hcl hD
  have hP : va_P D vwCl (fl [[ob h 2 [.ref hs, .int (nI cm)]], [sa ty hs 14 (fun k => some (ad k 0))], (stW ty a (ur cm) (ux cm) (uy cm) (ug cm)), (hsW ty ad ur ux uy ug)]) H := hP
  have hD : va_D A (fl [[ob h 2 [.ref hs, .int (nI cm)]], [sa ty hs 14 (fun k => some (ad k 0))], (stW ty a (ur cm) (ux cm) (uy cm) (ug cm)), (hsW ty ad ur ux uy ug)]) := hD
  exact end_v (bs' := (fun (_ : Unit) => [[ob h 2 [.ref hs, .int (nI cm)]], [sa ty hs 14 (fun k => some (ad k 0))], (stW ty a (ur cm) (ux cm) (uy cm) (ug cm)), (hsW ty ad ur ux uy ug)])) () hx hb hr hlocks hP hD hS trivial (Nat.le_of_ble_eq_true rfl) (Nat.le_of_ble_eq_true rfl) dX2_takeBackInto_23
