set_option maxHeartbeats 4000000 in
set_option maxRecDepth 100000 in
theorem c_T_guard1 (l : Launch) (D : va_G) (ty : Nat → ClassId) (i9 : Int32) (bc tx hi sl : Nat) (b : Nat → Nat) (a : Nat → Nat) (r : Nat → Int32) (x y : Int64) (g : Nat → Nat → Int32) (hs cn : Nat) (ad : Nat → Nat → Nat) (ur : Nat → Nat → Int32) (ux uy : Nat → Int64) (ug : Nat → Nat → Nat → Int32) (hst : l.stackTraces = false) (hc : cn ≤ 14) (hc0 : inI i9 3) (hc1 : pdom r = 0) : CTi l yL_tryGuard wsL_tryGuard ({ frames := 8, cells := 2, slots := 12, locals := 125 }) D ty [.ref bc, .int i9, .int 1] [[ob bc 8 [.ref tx, .ref (a 0), .ref (b 0), .ref hi, .ref sl]], [ob hi 2 [.ref hs, .int (nI cn)]], [sa ty hs 14 (fun k => some (ad k 0))], (stW ty a r x y g), (hsW ty ad ur ux uy ug)] (fun (RET : Int32) (_ : Unit) => RET = (gpn (bz (upd r (24 + i9.toNatClampNeg) 1 24)) (bz (upd r (24 + i9.toNatClampNeg) 1 25)) (bz (upd r (24 + i9.toNatClampNeg) 1 26)))) (fun (_ : Unit) => [[ob bc 8 [.ref tx, .ref (a 0), .ref (b 0), .ref hi, .ref sl]], [ob hi 2 [.ref hs, .int (nI (remC cn))]], [sa ty hs 14 (fun k => some ((remA cn ad) k 0))], (stW ty a (upd r (24 + i9.toNatClampNeg) 1) x y g), (hsW ty (remA cn ad) (remF cn ur r) (remF cn ux x) (remF cn uy y) (remF cn ug g))]) := by
  refine CTi_ofH cL_tryGuard 4 (some .int) [(0, 15, 16, 29), (0, 15, 20, 16)] (by decide) rfl (Nat.le_of_ble_eq_true rfl) ?_
  intro p e s m args below meth c A hx hb hr hml hown hlocks hin hts hA hX hK hP hD ht0 ls hl
  have hown : s.vm.findClass RL = some m.cls := hown
  have hS : va_S A s.heap s.heap [] := va_S.rf
  have hl : lv_has ls 4 [(0, .ref bc), (1, .int i9), (2, .int 1)] := hl
  refine lv_aload_n hx hb dL_tryGuard_0 rfl (lv_at hl 0 rfl) ?_
  refine lv_iload_n hx hb dL_tryGuard_1 rfl (lv_at hl 1 rfl) ?_
  refine lv_iload_n hx hb dL_tryGuard_2 rfl (lv_at hl 2 rfl) ?_
  refine lv_iconst (v := 1) hx hb dL_tryGuard_3 (by decide) ?_
  refine lv_icmp_ne (tgt := 11) hx hb dL_tryGuard_4 (by decide) (fun c_1 => ?_) (fun c_1 => ?_)
  · first | exact absurd c_1 (by decide) | exact absurd (by decide) c_1
  · skip
    refine lv_iconst (v := 1) hx hb dL_tryGuard_7 (by decide) ?_
    refine lv_goto (tgt := 12) hx hb dL_tryGuard_8 (by decide) ?_
    refine cVxi (As := [.int i9, .int 1]) (rest := []) ⟨hx, hb, hml, hown, hts⟩ (c_X9_guard l D ty i9 1 bc tx hi sl b a r x y g hs cn ad ur ux uy ug hst hc (Or.inr rfl)) (cwV 2 hts gL_tryGuard_X9_guard rfl rfl rfl (by decide +kernel) ⟨Nat.le_of_ble_eq_true rfl, Nat.le_of_ble_eq_true rfl⟩) hK hX hP hD hS hA (pk (bs := [[ob bc 8 [.ref tx, .ref (a 0), .ref (b 0), .ref hi, .ref sl]], [ob hi 2 [.ref hs, .int (nI cn)]], [sa ty hs 14 (fun k => some (ad k 0))], (stW ty a r x y g), (hsW ty ad ur ux uy ug)]) (bsc := [[ob bc 8 [.ref tx, .ref (a 0), .ref (b 0), .ref hi, .ref sl]], [ob hi 2 [.ref hs, .int (nI cn)]], [sa ty hs 14 (fun k => some (ad k 0))], (stW ty a r x y g), (hsW ty ad ur ux uy ug)]) (bsr := []) [0, 1, 2, 3, 4] [] 5 rfl (by decide +kernel) rfl rfl) (ci := 8) rfl 0 rfl rfl hl.1 rfl (Nat.le_of_ble_eq_true rfl) dL_tryGuard_12 ⟨Nat.le_of_ble_eq_true rfl, Nat.le_of_ble_eq_true rfl⟩ (fun E hE ce q9 H locs hP hD hS hce hcv hcl => ?_) (fun r9 u9 h9 H locs hP hD hS => ?_)
    · skip
      rcases hE with ⟨hEE, h0⟩ | ⟨hEE, k0, h1⟩
      · skip
        exact absurd hc0 h0
      · skip
        exact absurd hc1 h1
    · skip
      have hP : va_P D vwCl (fl [[ob bc 8 [.ref tx, .ref (a 0), .ref (b 0), .ref hi, .ref sl]], [ob hi 2 [.ref hs, .int (nI (remC cn))]], [sa ty hs 14 (fun k => some ((remA cn ad) k 0))], (stW ty a (upd r (24 + i9.toNatClampNeg) 1) x y g), (hsW ty (remA cn ad) (remF cn ur r) (remF cn ux x) (remF cn uy y) (remF cn ug g))]) H := by rw [List.append_nil] at hP; exact hP
      have hD : va_D A (fl [[ob bc 8 [.ref tx, .ref (a 0), .ref (b 0), .ref hi, .ref sl]], [ob hi 2 [.ref hs, .int (nI (remC cn))]], [sa ty hs 14 (fun k => some ((remA cn ad) k 0))], (stW ty a (upd r (24 + i9.toNatClampNeg) 1) x y g), (hsW ty (remA cn ad) (remF cn ur r) (remF cn ux x) (remF cn uy y) (remF cn ug g))]) := by rw [List.append_nil] at hD; exact hD
      have h8 : r9 = (gpn (bz (upd r (24 + i9.toNatClampNeg) 1 24)) (bz (upd r (24 + i9.toNatClampNeg) 1 25)) (bz (upd r (24 + i9.toNatClampNeg) 1 26))) := h9.1
      subst h8
      have hP : va_P D vwCl (fl [[ob bc 8 [.ref tx, .ref (a 0), .ref (b 0), .ref hi, .ref sl]], [ob hi 2 [.ref hs, .int (nI (remC cn))]], [sa ty hs 14 (fun k => some ((remA cn ad) k 0))], (stW ty a (upd r (24 + i9.toNatClampNeg) 1) x y g), (hsW ty (remA cn ad) (remF cn ur r) (remF cn ux x) (remF cn uy y) (remF cn ug g))]) H := hP
      have hD : va_D A (fl [[ob bc 8 [.ref tx, .ref (a 0), .ref (b 0), .ref hi, .ref sl]], [ob hi 2 [.ref hs, .int (nI (remC cn))]], [sa ty hs 14 (fun k => some ((remA cn ad) k 0))], (stW ty a (upd r (24 + i9.toNatClampNeg) 1) x y g), (hsW ty (remA cn ad) (remF cn ur r) (remF cn ux x) (remF cn uy y) (remF cn ug g))]) := hD
      exact end_i (bs' := (fun (_ : Unit) => [[ob bc 8 [.ref tx, .ref (a 0), .ref (b 0), .ref hi, .ref sl]], [ob hi 2 [.ref hs, .int (nI (remC cn))]], [sa ty hs 14 (fun k => some ((remA cn ad) k 0))], (stW ty a (upd r (24 + i9.toNatClampNeg) 1) x y g), (hsW ty (remA cn ad) (remF cn ur r) (remF cn ux x) (remF cn uy y) (remF cn ug g))])) () hx hb hr hlocks hP hD hS (by first | rfl | decide | simp [c_1]) (Nat.le_of_ble_eq_true rfl) (Nat.le_of_ble_eq_true rfl) dL_tryGuard_15
set_option maxHeartbeats 4000000 in
set_option maxRecDepth 100000 in
theorem c_T_guard1_n0 (l : Launch) (D : va_G) (ty : Nat → ClassId) (i9 : Int32) (bc tx hi sl : Nat) (b : Nat → Nat) (a : Nat → Nat) (r : Nat → Int32) (x y : Int64) (g : Nat → Nat → Int32) (hs cn : Nat) (ad : Nat → Nat → Nat) (ur : Nat → Nat → Int32) (ux uy : Nat → Int64) (ug : Nat → Nat → Nat → Int32) (hst : l.stackTraces = false) (hc : cn ≤ 14) (hc0 : ¬ (inI i9 3)) : CTi l yL_tryGuard wsL_tryGuard ({ frames := 8, cells := 2, slots := 12, locals := 125 }) D ty [.ref bc, .int i9, .int 1] [[ob bc 8 [.ref tx, .ref (a 0), .ref (b 0), .ref hi, .ref sl]], [ob hi 2 [.ref hs, .int (nI cn)]], [sa ty hs 14 (fun k => some (ad k 0))], (stW ty a r x y g), (hsW ty ad ur ux uy ug)] (fun (RET : Int32) (_ : Unit) => RET = (-999999001)) (fun (_ : Unit) => [[ob bc 8 [.ref tx, .ref (a 0), .ref (b 0), .ref hi, .ref sl]], [ob hi 2 [.ref hs, .int (nI cn)]], [sa ty hs 14 (fun k => some (ad k 0))], (stW ty a r x y g), (hsW ty ad ur ux uy ug)]) := by
  refine CTi_ofH cL_tryGuard 4 (some .int) [(0, 15, 16, 29), (0, 15, 20, 16)] (by decide) rfl (Nat.le_of_ble_eq_true rfl) ?_
  intro p e s m args below meth c A hx hb hr hml hown hlocks hin hts hA hX hK hP hD ht0 ls hl
  have hown : s.vm.findClass RL = some m.cls := hown
  have hS : va_S A s.heap s.heap [] := va_S.rf
  have hl : lv_has ls 4 [(0, .ref bc), (1, .int i9), (2, .int 1)] := hl
  refine lv_aload_n hx hb dL_tryGuard_0 rfl (lv_at hl 0 rfl) ?_
  refine lv_iload_n hx hb dL_tryGuard_1 rfl (lv_at hl 1 rfl) ?_
  refine lv_iload_n hx hb dL_tryGuard_2 rfl (lv_at hl 2 rfl) ?_
  refine lv_iconst (v := 1) hx hb dL_tryGuard_3 (by decide) ?_
  refine lv_icmp_ne (tgt := 11) hx hb dL_tryGuard_4 (by decide) (fun c_1 => ?_) (fun c_1 => ?_)
  · first | exact absurd c_1 (by decide) | exact absurd (by decide) c_1
  · skip
    refine lv_iconst (v := 1) hx hb dL_tryGuard_7 (by decide) ?_
    refine lv_goto (tgt := 12) hx hb dL_tryGuard_8 (by decide) ?_
    refine cVxi (As := [.int i9, .int 1]) (rest := []) ⟨hx, hb, hml, hown, hts⟩ (c_X9_guard l D ty i9 1 bc tx hi sl b a r x y g hs cn ad ur ux uy ug hst hc (Or.inr rfl)) (cwV 2 hts gL_tryGuard_X9_guard rfl rfl rfl (by decide +kernel) ⟨Nat.le_of_ble_eq_true rfl, Nat.le_of_ble_eq_true rfl⟩) hK hX hP hD hS hA (pk (bs := [[ob bc 8 [.ref tx, .ref (a 0), .ref (b 0), .ref hi, .ref sl]], [ob hi 2 [.ref hs, .int (nI cn)]], [sa ty hs 14 (fun k => some (ad k 0))], (stW ty a r x y g), (hsW ty ad ur ux uy ug)]) (bsc := [[ob bc 8 [.ref tx, .ref (a 0), .ref (b 0), .ref hi, .ref sl]], [ob hi 2 [.ref hs, .int (nI cn)]], [sa ty hs 14 (fun k => some (ad k 0))], (stW ty a r x y g), (hsW ty ad ur ux uy ug)]) (bsr := []) [0, 1, 2, 3, 4] [] 5 rfl (by decide +kernel) rfl rfl) (ci := 8) rfl 0 rfl rfl hl.1 rfl (Nat.le_of_ble_eq_true rfl) dL_tryGuard_12 ⟨Nat.le_of_ble_eq_true rfl, Nat.le_of_ble_eq_true rfl⟩ (fun E hE ce q9 H locs hP hD hS hce hcv hcl => ?_) (fun r9 u9 h9 H locs hP hD hS => ?_)
    · skip
      rcases hE with ⟨hEE, h0⟩ | ⟨hEE, k0, h1⟩
      · skip
        subst hEE
        have hP : va_P D vwCl (fl [[ob bc 8 [.ref tx, .ref (a 0), .ref (b 0), .ref hi, .ref sl]], [ob hi 2 [.ref hs, .int (nI cn)]], [sa ty hs 14 (fun k => some (ad k 0))], (stW ty a r x y g), (hsW ty ad ur ux uy ug)]) H := by rw [List.append_nil] at hP; exact hP
        have hD : va_D A (fl [[ob bc 8 [.ref tx, .ref (a 0), .ref (b 0), .ref hi, .ref sl]], [ob hi 2 [.ref hs, .int (nI cn)]], [sa ty hs 14 (fun k => some (ad k 0))], (stW ty a r x y g), (hsW ty ad ur ux uy ug)]) := by rw [List.append_nil] at hD; exact hD
        refine vx_catch (own := RL) (name := EIO) (E := EIO) hown [] ⟨0, 15, 16, 29⟩ [⟨0, 15, 20, 16⟩] (ht0.trans rfl) (fun z hz => by cases hz) (by decide) (by decide) (hts (Cond.classLink RL 29 "java/lang/IndexOutOfBoundsException") (List.mem_of_getElem? (i := 1) rfl)) (va_Nw.use rfl hX.1.2.2.1.2.2) hce hcv hcl ?_
        refine lv_astore_n (lv' := [(3, .ref q9), (0, .ref bc), (1, .int i9), (2, .int 1)]) hx hb dL_tryGuard_16 rfl hl (by decide) rfl (fun ls hl => ?_)
        refine lv_ldc hx hb hown (hts (Cond.constant RL 31 (-999999001)) (List.mem_of_getElem? (i := 3) rfl)) dL_tryGuard_17 ?_
        have hP : va_P D vwCl (fl [[ob bc 8 [.ref tx, .ref (a 0), .ref (b 0), .ref hi, .ref sl]], [ob hi 2 [.ref hs, .int (nI cn)]], [sa ty hs 14 (fun k => some (ad k 0))], (stW ty a r x y g), (hsW ty ad ur ux uy ug)]) H := hP
        have hD : va_D A (fl [[ob bc 8 [.ref tx, .ref (a 0), .ref (b 0), .ref hi, .ref sl]], [ob hi 2 [.ref hs, .int (nI cn)]], [sa ty hs 14 (fun k => some (ad k 0))], (stW ty a r x y g), (hsW ty ad ur ux uy ug)]) := hD
        exact end_i (bs' := (fun (_ : Unit) => [[ob bc 8 [.ref tx, .ref (a 0), .ref (b 0), .ref hi, .ref sl]], [ob hi 2 [.ref hs, .int (nI cn)]], [sa ty hs 14 (fun k => some (ad k 0))], (stW ty a r x y g), (hsW ty ad ur ux uy ug)])) () hx hb hr hlocks hP hD hS (by first | rfl | decide | simp [c_1]) (Nat.le_of_ble_eq_true rfl) (Nat.le_of_ble_eq_true rfl) dL_tryGuard_19
      · skip
        exact absurd k0 hc0
    · exact absurd h9.2.1 hc0
set_option maxHeartbeats 4000000 in
set_option maxRecDepth 100000 in
theorem c_T_guard1_n1 (l : Launch) (D : va_G) (ty : Nat → ClassId) (i9 : Int32) (bc tx hi sl : Nat) (b : Nat → Nat) (a : Nat → Nat) (r : Nat → Int32) (x y : Int64) (g : Nat → Nat → Int32) (hs cn : Nat) (ad : Nat → Nat → Nat) (ur : Nat → Nat → Int32) (ux uy : Nat → Int64) (ug : Nat → Nat → Nat → Int32) (hst : l.stackTraces = false) (hc : cn ≤ 14) (hc0 : inI i9 3) (hc1 : ¬ (pdom r = 0)) : CTi l yL_tryGuard wsL_tryGuard ({ frames := 8, cells := 2, slots := 12, locals := 125 }) D ty [.ref bc, .int i9, .int 1] [[ob bc 8 [.ref tx, .ref (a 0), .ref (b 0), .ref hi, .ref sl]], [ob hi 2 [.ref hs, .int (nI cn)]], [sa ty hs 14 (fun k => some (ad k 0))], (stW ty a r x y g), (hsW ty ad ur ux uy ug)] (fun (RET : Int32) (_ : Unit) => RET = (-999999003)) (fun (_ : Unit) => [[ob bc 8 [.ref tx, .ref (a 0), .ref (b 0), .ref hi, .ref sl]], [ob hi 2 [.ref hs, .int (nI cn)]], [sa ty hs 14 (fun k => some (ad k 0))], (stW ty a r x y g), (hsW ty ad ur ux uy ug)]) := by
  refine CTi_ofH cL_tryGuard 4 (some .int) [(0, 15, 16, 29), (0, 15, 20, 16)] (by decide) rfl (Nat.le_of_ble_eq_true rfl) ?_
  intro p e s m args below meth c A hx hb hr hml hown hlocks hin hts hA hX hK hP hD ht0 ls hl
  have hown : s.vm.findClass RL = some m.cls := hown
  have hS : va_S A s.heap s.heap [] := va_S.rf
  have hl : lv_has ls 4 [(0, .ref bc), (1, .int i9), (2, .int 1)] := hl
  refine lv_aload_n hx hb dL_tryGuard_0 rfl (lv_at hl 0 rfl) ?_
  refine lv_iload_n hx hb dL_tryGuard_1 rfl (lv_at hl 1 rfl) ?_
  refine lv_iload_n hx hb dL_tryGuard_2 rfl (lv_at hl 2 rfl) ?_
  refine lv_iconst (v := 1) hx hb dL_tryGuard_3 (by decide) ?_
  refine lv_icmp_ne (tgt := 11) hx hb dL_tryGuard_4 (by decide) (fun c_1 => ?_) (fun c_1 => ?_)
  · first | exact absurd c_1 (by decide) | exact absurd (by decide) c_1
  · skip
    refine lv_iconst (v := 1) hx hb dL_tryGuard_7 (by decide) ?_
    refine lv_goto (tgt := 12) hx hb dL_tryGuard_8 (by decide) ?_
    refine cVxi (As := [.int i9, .int 1]) (rest := []) ⟨hx, hb, hml, hown, hts⟩ (c_X9_guard l D ty i9 1 bc tx hi sl b a r x y g hs cn ad ur ux uy ug hst hc (Or.inr rfl)) (cwV 2 hts gL_tryGuard_X9_guard rfl rfl rfl (by decide +kernel) ⟨Nat.le_of_ble_eq_true rfl, Nat.le_of_ble_eq_true rfl⟩) hK hX hP hD hS hA (pk (bs := [[ob bc 8 [.ref tx, .ref (a 0), .ref (b 0), .ref hi, .ref sl]], [ob hi 2 [.ref hs, .int (nI cn)]], [sa ty hs 14 (fun k => some (ad k 0))], (stW ty a r x y g), (hsW ty ad ur ux uy ug)]) (bsc := [[ob bc 8 [.ref tx, .ref (a 0), .ref (b 0), .ref hi, .ref sl]], [ob hi 2 [.ref hs, .int (nI cn)]], [sa ty hs 14 (fun k => some (ad k 0))], (stW ty a r x y g), (hsW ty ad ur ux uy ug)]) (bsr := []) [0, 1, 2, 3, 4] [] 5 rfl (by decide +kernel) rfl rfl) (ci := 8) rfl 0 rfl rfl hl.1 rfl (Nat.le_of_ble_eq_true rfl) dL_tryGuard_12 ⟨Nat.le_of_ble_eq_true rfl, Nat.le_of_ble_eq_true rfl⟩ (fun E hE ce q9 H locs hP hD hS hce hcv hcl => ?_) (fun r9 u9 h9 H locs hP hD hS => ?_)
    · skip
      rcases hE with ⟨hEE, h0⟩ | ⟨hEE, k0, h1⟩
      · skip
        exact absurd hc0 h0
      · skip
        subst hEE
        have hP : va_P D vwCl (fl [[ob bc 8 [.ref tx, .ref (a 0), .ref (b 0), .ref hi, .ref sl]], [ob hi 2 [.ref hs, .int (nI cn)]], [sa ty hs 14 (fun k => some (ad k 0))], (stW ty a r x y g), (hsW ty ad ur ux uy ug)]) H := by rw [List.append_nil] at hP; exact hP
        have hD : va_D A (fl [[ob bc 8 [.ref tx, .ref (a 0), .ref (b 0), .ref hi, .ref sl]], [ob hi 2 [.ref hs, .int (nI cn)]], [sa ty hs 14 (fun k => some (ad k 0))], (stW ty a r x y g), (hsW ty ad ur ux uy ug)]) := by rw [List.append_nil] at hD; exact hD
        refine vx_catch (own := RL) (name := EIS) (E := EIS) hown [⟨0, 15, 16, 29⟩] ⟨0, 15, 20, 16⟩ [] (ht0.trans rfl) (List.forall_mem_cons.mpr ⟨Or.inr ⟨by decide, _, (hts (Cond.classLink RL 29 "java/lang/IndexOutOfBoundsException") (List.mem_of_getElem? (i := 1) rfl)), hX.1.2.2.2.1.1.2.2.2.1⟩, (fun z hz => absurd hz List.not_mem_nil)⟩) (by decide) (by decide) (hts (Cond.classLink RL 16 "java/lang/IllegalStateException") (List.mem_of_getElem? (i := 2) rfl)) (va_Nw.use rfl hX.1.2.2.1.2.1) hce hcv hcl ?_
        refine lv_astore_n (lv' := [(3, .ref q9), (0, .ref bc), (1, .int i9), (2, .int 1)]) hx hb dL_tryGuard_20 rfl hl (by decide) rfl (fun ls hl => ?_)
        refine lv_ldc hx hb hown (hts (Cond.constant RL 18 (-999999003)) (List.mem_of_getElem? (i := 4) rfl)) dL_tryGuard_21 ?_
        have hP : va_P D vwCl (fl [[ob bc 8 [.ref tx, .ref (a 0), .ref (b 0), .ref hi, .ref sl]], [ob hi 2 [.ref hs, .int (nI cn)]], [sa ty hs 14 (fun k => some (ad k 0))], (stW ty a r x y g), (hsW ty ad ur ux uy ug)]) H := hP
        have hD : va_D A (fl [[ob bc 8 [.ref tx, .ref (a 0), .ref (b 0), .ref hi, .ref sl]], [ob hi 2 [.ref hs, .int (nI cn)]], [sa ty hs 14 (fun k => some (ad k 0))], (stW ty a r x y g), (hsW ty ad ur ux uy ug)]) := hD
        exact end_i (bs' := (fun (_ : Unit) => [[ob bc 8 [.ref tx, .ref (a 0), .ref (b 0), .ref hi, .ref sl]], [ob hi 2 [.ref hs, .int (nI cn)]], [sa ty hs 14 (fun k => some (ad k 0))], (stW ty a r x y g), (hsW ty ad ur ux uy ug)])) () hx hb hr hlocks hP hD hS (by first | rfl | decide | simp [c_1]) (Nat.le_of_ble_eq_true rfl) (Nat.le_of_ble_eq_true rfl) dL_tryGuard_23
    · exact absurd h9.2.2 hc1
set_option maxHeartbeats 4000000 in
set_option maxRecDepth 100000 in
theorem c_T_guard0 (l : Launch) (D : va_G) (ty : Nat → ClassId) (i9 : Int32) (bc tx hi sl : Nat) (b : Nat → Nat) (a : Nat → Nat) (r : Nat → Int32) (x y : Int64) (g : Nat → Nat → Int32) (hs cn : Nat) (ad : Nat → Nat → Nat) (ur : Nat → Nat → Int32) (ux uy : Nat → Int64) (ug : Nat → Nat → Nat → Int32) (hst : l.stackTraces = false) (hc : cn ≤ 14) (hc0 : inI i9 3) (hc1 : pdom r = 0) : CTi l yL_tryGuard wsL_tryGuard ({ frames := 8, cells := 2, slots := 12, locals := 125 }) D ty [.ref bc, .int i9, .int 0] [[ob bc 8 [.ref tx, .ref (a 0), .ref (b 0), .ref hi, .ref sl]], [ob hi 2 [.ref hs, .int (nI cn)]], [sa ty hs 14 (fun k => some (ad k 0))], (stW ty a r x y g), (hsW ty ad ur ux uy ug)] (fun (RET : Int32) (_ : Unit) => RET = (gpn (bz (upd r (24 + i9.toNatClampNeg) 0 24)) (bz (upd r (24 + i9.toNatClampNeg) 0 25)) (bz (upd r (24 + i9.toNatClampNeg) 0 26)))) (fun (_ : Unit) => [[ob bc 8 [.ref tx, .ref (a 0), .ref (b 0), .ref hi, .ref sl]], [ob hi 2 [.ref hs, .int (nI (remC cn))]], [sa ty hs 14 (fun k => some ((remA cn ad) k 0))], (stW ty a (upd r (24 + i9.toNatClampNeg) 0) x y g), (hsW ty (remA cn ad) (remF cn ur r) (remF cn ux x) (remF cn uy y) (remF cn ug g))]) := by
  refine CTi_ofH cL_tryGuard 4 (some .int) [(0, 15, 16, 29), (0, 15, 20, 16)] (by decide) rfl (Nat.le_of_ble_eq_true rfl) ?_
  intro p e s m args below meth c A hx hb hr hml hown hlocks hin hts hA hX hK hP hD ht0 ls hl
  have hown : s.vm.findClass RL = some m.cls := hown
  have hS : va_S A s.heap s.heap [] := va_S.rf
  have hl : lv_has ls 4 [(0, .ref bc), (1, .int i9), (2, .int 0)] := hl
  refine lv_aload_n hx hb dL_tryGuard_0 rfl (lv_at hl 0 rfl) ?_
  refine lv_iload_n hx hb dL_tryGuard_1 rfl (lv_at hl 1 rfl) ?_
  refine lv_iload_n hx hb dL_tryGuard_2 rfl (lv_at hl 2 rfl) ?_
  refine lv_iconst (v := 1) hx hb dL_tryGuard_3 (by decide) ?_
  refine lv_icmp_ne (tgt := 11) hx hb dL_tryGuard_4 (by decide) (fun c_1 => ?_) (fun c_1 => ?_)
  · skip
    refine lv_iconst (v := 0) hx hb dL_tryGuard_11 (by decide) ?_
    refine cVxi (As := [.int i9, .int 0]) (rest := []) ⟨hx, hb, hml, hown, hts⟩ (c_X9_guard l D ty i9 0 bc tx hi sl b a r x y g hs cn ad ur ux uy ug hst hc (Or.inl rfl)) (cwV 2 hts gL_tryGuard_X9_guard rfl rfl rfl (by decide +kernel) ⟨Nat.le_of_ble_eq_true rfl, Nat.le_of_ble_eq_true rfl⟩) hK hX hP hD hS hA (pk (bs := [[ob bc 8 [.ref tx, .ref (a 0), .ref (b 0), .ref hi, .ref sl]], [ob hi 2 [.ref hs, .int (nI cn)]], [sa ty hs 14 (fun k => some (ad k 0))], (stW ty a r x y g), (hsW ty ad ur ux uy ug)]) (bsc := [[ob bc 8 [.ref tx, .ref (a 0), .ref (b 0), .ref hi, .ref sl]], [ob hi 2 [.ref hs, .int (nI cn)]], [sa ty hs 14 (fun k => some (ad k 0))], (stW ty a r x y g), (hsW ty ad ur ux uy ug)]) (bsr := []) [0, 1, 2, 3, 4] [] 5 rfl (by decide +kernel) rfl rfl) (ci := 8) rfl 0 rfl rfl hl.1 rfl (Nat.le_of_ble_eq_true rfl) dL_tryGuard_12 ⟨Nat.le_of_ble_eq_true rfl, Nat.le_of_ble_eq_true rfl⟩ (fun E hE ce q9 H locs hP hD hS hce hcv hcl => ?_) (fun r9 u9 h9 H locs hP hD hS => ?_)
    · skip
      rcases hE with ⟨hEE, h0⟩ | ⟨hEE, k0, h1⟩
      · skip
        exact absurd hc0 h0
      · skip
        exact absurd hc1 h1
    · skip
      have hP : va_P D vwCl (fl [[ob bc 8 [.ref tx, .ref (a 0), .ref (b 0), .ref hi, .ref sl]], [ob hi 2 [.ref hs, .int (nI (remC cn))]], [sa ty hs 14 (fun k => some ((remA cn ad) k 0))], (stW ty a (upd r (24 + i9.toNatClampNeg) 0) x y g), (hsW ty (remA cn ad) (remF cn ur r) (remF cn ux x) (remF cn uy y) (remF cn ug g))]) H := by rw [List.append_nil] at hP; exact hP
      have hD : va_D A (fl [[ob bc 8 [.ref tx, .ref (a 0), .ref (b 0), .ref hi, .ref sl]], [ob hi 2 [.ref hs, .int (nI (remC cn))]], [sa ty hs 14 (fun k => some ((remA cn ad) k 0))], (stW ty a (upd r (24 + i9.toNatClampNeg) 0) x y g), (hsW ty (remA cn ad) (remF cn ur r) (remF cn ux x) (remF cn uy y) (remF cn ug g))]) := by rw [List.append_nil] at hD; exact hD
      have h8 : r9 = (gpn (bz (upd r (24 + i9.toNatClampNeg) 0 24)) (bz (upd r (24 + i9.toNatClampNeg) 0 25)) (bz (upd r (24 + i9.toNatClampNeg) 0 26))) := h9.1
      subst h8
      have hP : va_P D vwCl (fl [[ob bc 8 [.ref tx, .ref (a 0), .ref (b 0), .ref hi, .ref sl]], [ob hi 2 [.ref hs, .int (nI (remC cn))]], [sa ty hs 14 (fun k => some ((remA cn ad) k 0))], (stW ty a (upd r (24 + i9.toNatClampNeg) 0) x y g), (hsW ty (remA cn ad) (remF cn ur r) (remF cn ux x) (remF cn uy y) (remF cn ug g))]) H := hP
      have hD : va_D A (fl [[ob bc 8 [.ref tx, .ref (a 0), .ref (b 0), .ref hi, .ref sl]], [ob hi 2 [.ref hs, .int (nI (remC cn))]], [sa ty hs 14 (fun k => some ((remA cn ad) k 0))], (stW ty a (upd r (24 + i9.toNatClampNeg) 0) x y g), (hsW ty (remA cn ad) (remF cn ur r) (remF cn ux x) (remF cn uy y) (remF cn ug g))]) := hD
      exact end_i (bs' := (fun (_ : Unit) => [[ob bc 8 [.ref tx, .ref (a 0), .ref (b 0), .ref hi, .ref sl]], [ob hi 2 [.ref hs, .int (nI (remC cn))]], [sa ty hs 14 (fun k => some ((remA cn ad) k 0))], (stW ty a (upd r (24 + i9.toNatClampNeg) 0) x y g), (hsW ty (remA cn ad) (remF cn ur r) (remF cn ux x) (remF cn uy y) (remF cn ug g))])) () hx hb hr hlocks hP hD hS (by first | rfl | decide | simp [c_1]) (Nat.le_of_ble_eq_true rfl) (Nat.le_of_ble_eq_true rfl) dL_tryGuard_15
  · first | exact absurd c_1 (by decide) | exact absurd (by decide) c_1
set_option maxHeartbeats 4000000 in
set_option maxRecDepth 100000 in
theorem c_T_guard0_n0 (l : Launch) (D : va_G) (ty : Nat → ClassId) (i9 : Int32) (bc tx hi sl : Nat) (b : Nat → Nat) (a : Nat → Nat) (r : Nat → Int32) (x y : Int64) (g : Nat → Nat → Int32) (hs cn : Nat) (ad : Nat → Nat → Nat) (ur : Nat → Nat → Int32) (ux uy : Nat → Int64) (ug : Nat → Nat → Nat → Int32) (hst : l.stackTraces = false) (hc : cn ≤ 14) (hc0 : ¬ (inI i9 3)) : CTi l yL_tryGuard wsL_tryGuard ({ frames := 8, cells := 2, slots := 12, locals := 125 }) D ty [.ref bc, .int i9, .int 0] [[ob bc 8 [.ref tx, .ref (a 0), .ref (b 0), .ref hi, .ref sl]], [ob hi 2 [.ref hs, .int (nI cn)]], [sa ty hs 14 (fun k => some (ad k 0))], (stW ty a r x y g), (hsW ty ad ur ux uy ug)] (fun (RET : Int32) (_ : Unit) => RET = (-999999001)) (fun (_ : Unit) => [[ob bc 8 [.ref tx, .ref (a 0), .ref (b 0), .ref hi, .ref sl]], [ob hi 2 [.ref hs, .int (nI cn)]], [sa ty hs 14 (fun k => some (ad k 0))], (stW ty a r x y g), (hsW ty ad ur ux uy ug)]) := by
  refine CTi_ofH cL_tryGuard 4 (some .int) [(0, 15, 16, 29), (0, 15, 20, 16)] (by decide) rfl (Nat.le_of_ble_eq_true rfl) ?_
  intro p e s m args below meth c A hx hb hr hml hown hlocks hin hts hA hX hK hP hD ht0 ls hl
  have hown : s.vm.findClass RL = some m.cls := hown
  have hS : va_S A s.heap s.heap [] := va_S.rf
  have hl : lv_has ls 4 [(0, .ref bc), (1, .int i9), (2, .int 0)] := hl
  refine lv_aload_n hx hb dL_tryGuard_0 rfl (lv_at hl 0 rfl) ?_
  refine lv_iload_n hx hb dL_tryGuard_1 rfl (lv_at hl 1 rfl) ?_
  refine lv_iload_n hx hb dL_tryGuard_2 rfl (lv_at hl 2 rfl) ?_
  refine lv_iconst (v := 1) hx hb dL_tryGuard_3 (by decide) ?_
  refine lv_icmp_ne (tgt := 11) hx hb dL_tryGuard_4 (by decide) (fun c_1 => ?_) (fun c_1 => ?_)
  · skip
    refine lv_iconst (v := 0) hx hb dL_tryGuard_11 (by decide) ?_
    refine cVxi (As := [.int i9, .int 0]) (rest := []) ⟨hx, hb, hml, hown, hts⟩ (c_X9_guard l D ty i9 0 bc tx hi sl b a r x y g hs cn ad ur ux uy ug hst hc (Or.inl rfl)) (cwV 2 hts gL_tryGuard_X9_guard rfl rfl rfl (by decide +kernel) ⟨Nat.le_of_ble_eq_true rfl, Nat.le_of_ble_eq_true rfl⟩) hK hX hP hD hS hA (pk (bs := [[ob bc 8 [.ref tx, .ref (a 0), .ref (b 0), .ref hi, .ref sl]], [ob hi 2 [.ref hs, .int (nI cn)]], [sa ty hs 14 (fun k => some (ad k 0))], (stW ty a r x y g), (hsW ty ad ur ux uy ug)]) (bsc := [[ob bc 8 [.ref tx, .ref (a 0), .ref (b 0), .ref hi, .ref sl]], [ob hi 2 [.ref hs, .int (nI cn)]], [sa ty hs 14 (fun k => some (ad k 0))], (stW ty a r x y g), (hsW ty ad ur ux uy ug)]) (bsr := []) [0, 1, 2, 3, 4] [] 5 rfl (by decide +kernel) rfl rfl) (ci := 8) rfl 0 rfl rfl hl.1 rfl (Nat.le_of_ble_eq_true rfl) dL_tryGuard_12 ⟨Nat.le_of_ble_eq_true rfl, Nat.le_of_ble_eq_true rfl⟩ (fun E hE ce q9 H locs hP hD hS hce hcv hcl => ?_) (fun r9 u9 h9 H locs hP hD hS => ?_)
    · skip
      rcases hE with ⟨hEE, h0⟩ | ⟨hEE, k0, h1⟩
      · skip
        subst hEE
        have hP : va_P D vwCl (fl [[ob bc 8 [.ref tx, .ref (a 0), .ref (b 0), .ref hi, .ref sl]], [ob hi 2 [.ref hs, .int (nI cn)]], [sa ty hs 14 (fun k => some (ad k 0))], (stW ty a r x y g), (hsW ty ad ur ux uy ug)]) H := by rw [List.append_nil] at hP; exact hP
        have hD : va_D A (fl [[ob bc 8 [.ref tx, .ref (a 0), .ref (b 0), .ref hi, .ref sl]], [ob hi 2 [.ref hs, .int (nI cn)]], [sa ty hs 14 (fun k => some (ad k 0))], (stW ty a r x y g), (hsW ty ad ur ux uy ug)]) := by rw [List.append_nil] at hD; exact hD
        refine vx_catch (own := RL) (name := EIO) (E := EIO) hown [] ⟨0, 15, 16, 29⟩ [⟨0, 15, 20, 16⟩] (ht0.trans rfl) (fun z hz => by cases hz) (by decide) (by decide) (hts (Cond.classLink RL 29 "java/lang/IndexOutOfBoundsException") (List.mem_of_getElem? (i := 1) rfl)) (va_Nw.use rfl hX.1.2.2.1.2.2) hce hcv hcl ?_
        refine lv_astore_n (lv' := [(3, .ref q9), (0, .ref bc), (1, .int i9), (2, .int 0)]) hx hb dL_tryGuard_16 rfl hl (by decide) rfl (fun ls hl => ?_)
        refine lv_ldc hx hb hown (hts (Cond.constant RL 31 (-999999001)) (List.mem_of_getElem? (i := 3) rfl)) dL_tryGuard_17 ?_
        have hP : va_P D vwCl (fl [[ob bc 8 [.ref tx, .ref (a 0), .ref (b 0), .ref hi, .ref sl]], [ob hi 2 [.ref hs, .int (nI cn)]], [sa ty hs 14 (fun k => some (ad k 0))], (stW ty a r x y g), (hsW ty ad ur ux uy ug)]) H := hP
        have hD : va_D A (fl [[ob bc 8 [.ref tx, .ref (a 0), .ref (b 0), .ref hi, .ref sl]], [ob hi 2 [.ref hs, .int (nI cn)]], [sa ty hs 14 (fun k => some (ad k 0))], (stW ty a r x y g), (hsW ty ad ur ux uy ug)]) := hD
        exact end_i (bs' := (fun (_ : Unit) => [[ob bc 8 [.ref tx, .ref (a 0), .ref (b 0), .ref hi, .ref sl]], [ob hi 2 [.ref hs, .int (nI cn)]], [sa ty hs 14 (fun k => some (ad k 0))], (stW ty a r x y g), (hsW ty ad ur ux uy ug)])) () hx hb hr hlocks hP hD hS (by first | rfl | decide | simp [c_1]) (Nat.le_of_ble_eq_true rfl) (Nat.le_of_ble_eq_true rfl) dL_tryGuard_19
      · skip
        exact absurd k0 hc0
    · exact absurd h9.2.1 hc0
  · first | exact absurd c_1 (by decide) | exact absurd (by decide) c_1
set_option maxHeartbeats 4000000 in
set_option maxRecDepth 100000 in
theorem c_T_guard0_n1 (l : Launch) (D : va_G) (ty : Nat → ClassId) (i9 : Int32) (bc tx hi sl : Nat) (b : Nat → Nat) (a : Nat → Nat) (r : Nat → Int32) (x y : Int64) (g : Nat → Nat → Int32) (hs cn : Nat) (ad : Nat → Nat → Nat) (ur : Nat → Nat → Int32) (ux uy : Nat → Int64) (ug : Nat → Nat → Nat → Int32) (hst : l.stackTraces = false) (hc : cn ≤ 14) (hc0 : inI i9 3) (hc1 : ¬ (pdom r = 0)) : CTi l yL_tryGuard wsL_tryGuard ({ frames := 8, cells := 2, slots := 12, locals := 125 }) D ty [.ref bc, .int i9, .int 0] [[ob bc 8 [.ref tx, .ref (a 0), .ref (b 0), .ref hi, .ref sl]], [ob hi 2 [.ref hs, .int (nI cn)]], [sa ty hs 14 (fun k => some (ad k 0))], (stW ty a r x y g), (hsW ty ad ur ux uy ug)] (fun (RET : Int32) (_ : Unit) => RET = (-999999003)) (fun (_ : Unit) => [[ob bc 8 [.ref tx, .ref (a 0), .ref (b 0), .ref hi, .ref sl]], [ob hi 2 [.ref hs, .int (nI cn)]], [sa ty hs 14 (fun k => some (ad k 0))], (stW ty a r x y g), (hsW ty ad ur ux uy ug)]) := by
  refine CTi_ofH cL_tryGuard 4 (some .int) [(0, 15, 16, 29), (0, 15, 20, 16)] (by decide) rfl (Nat.le_of_ble_eq_true rfl) ?_
  intro p e s m args below meth c A hx hb hr hml hown hlocks hin hts hA hX hK hP hD ht0 ls hl
  have hown : s.vm.findClass RL = some m.cls := hown
  have hS : va_S A s.heap s.heap [] := va_S.rf
  have hl : lv_has ls 4 [(0, .ref bc), (1, .int i9), (2, .int 0)] := hl
  refine lv_aload_n hx hb dL_tryGuard_0 rfl (lv_at hl 0 rfl) ?_
  refine lv_iload_n hx hb dL_tryGuard_1 rfl (lv_at hl 1 rfl) ?_
  refine lv_iload_n hx hb dL_tryGuard_2 rfl (lv_at hl 2 rfl) ?_
  refine lv_iconst (v := 1) hx hb dL_tryGuard_3 (by decide) ?_
  refine lv_icmp_ne (tgt := 11) hx hb dL_tryGuard_4 (by decide) (fun c_1 => ?_) (fun c_1 => ?_)
  · skip
    refine lv_iconst (v := 0) hx hb dL_tryGuard_11 (by decide) ?_
    refine cVxi (As := [.int i9, .int 0]) (rest := []) ⟨hx, hb, hml, hown, hts⟩ (c_X9_guard l D ty i9 0 bc tx hi sl b a r x y g hs cn ad ur ux uy ug hst hc (Or.inl rfl)) (cwV 2 hts gL_tryGuard_X9_guard rfl rfl rfl (by decide +kernel) ⟨Nat.le_of_ble_eq_true rfl, Nat.le_of_ble_eq_true rfl⟩) hK hX hP hD hS hA (pk (bs := [[ob bc 8 [.ref tx, .ref (a 0), .ref (b 0), .ref hi, .ref sl]], [ob hi 2 [.ref hs, .int (nI cn)]], [sa ty hs 14 (fun k => some (ad k 0))], (stW ty a r x y g), (hsW ty ad ur ux uy ug)]) (bsc := [[ob bc 8 [.ref tx, .ref (a 0), .ref (b 0), .ref hi, .ref sl]], [ob hi 2 [.ref hs, .int (nI cn)]], [sa ty hs 14 (fun k => some (ad k 0))], (stW ty a r x y g), (hsW ty ad ur ux uy ug)]) (bsr := []) [0, 1, 2, 3, 4] [] 5 rfl (by decide +kernel) rfl rfl) (ci := 8) rfl 0 rfl rfl hl.1 rfl (Nat.le_of_ble_eq_true rfl) dL_tryGuard_12 ⟨Nat.le_of_ble_eq_true rfl, Nat.le_of_ble_eq_true rfl⟩ (fun E hE ce q9 H locs hP hD hS hce hcv hcl => ?_) (fun r9 u9 h9 H locs hP hD hS => ?_)
    · skip
      rcases hE with ⟨hEE, h0⟩ | ⟨hEE, k0, h1⟩
      · skip
        exact absurd hc0 h0
      · skip
        subst hEE
        have hP : va_P D vwCl (fl [[ob bc 8 [.ref tx, .ref (a 0), .ref (b 0), .ref hi, .ref sl]], [ob hi 2 [.ref hs, .int (nI cn)]], [sa ty hs 14 (fun k => some (ad k 0))], (stW ty a r x y g), (hsW ty ad ur ux uy ug)]) H := by rw [List.append_nil] at hP; exact hP
        have hD : va_D A (fl [[ob bc 8 [.ref tx, .ref (a 0), .ref (b 0), .ref hi, .ref sl]], [ob hi 2 [.ref hs, .int (nI cn)]], [sa ty hs 14 (fun k => some (ad k 0))], (stW ty a r x y g), (hsW ty ad ur ux uy ug)]) := by rw [List.append_nil] at hD; exact hD
        refine vx_catch (own := RL) (name := EIS) (E := EIS) hown [⟨0, 15, 16, 29⟩] ⟨0, 15, 20, 16⟩ [] (ht0.trans rfl) (List.forall_mem_cons.mpr ⟨Or.inr ⟨by decide, _, (hts (Cond.classLink RL 29 "java/lang/IndexOutOfBoundsException") (List.mem_of_getElem? (i := 1) rfl)), hX.1.2.2.2.1.1.2.2.2.1⟩, (fun z hz => absurd hz List.not_mem_nil)⟩) (by decide) (by decide) (hts (Cond.classLink RL 16 "java/lang/IllegalStateException") (List.mem_of_getElem? (i := 2) rfl)) (va_Nw.use rfl hX.1.2.2.1.2.1) hce hcv hcl ?_
        refine lv_astore_n (lv' := [(3, .ref q9), (0, .ref bc), (1, .int i9), (2, .int 0)]) hx hb dL_tryGuard_20 rfl hl (by decide) rfl (fun ls hl => ?_)
        refine lv_ldc hx hb hown (hts (Cond.constant RL 18 (-999999003)) (List.mem_of_getElem? (i := 4) rfl)) dL_tryGuard_21 ?_
        have hP : va_P D vwCl (fl [[ob bc 8 [.ref tx, .ref (a 0), .ref (b 0), .ref hi, .ref sl]], [ob hi 2 [.ref hs, .int (nI cn)]], [sa ty hs 14 (fun k => some (ad k 0))], (stW ty a r x y g), (hsW ty ad ur ux uy ug)]) H := hP
        have hD : va_D A (fl [[ob bc 8 [.ref tx, .ref (a 0), .ref (b 0), .ref hi, .ref sl]], [ob hi 2 [.ref hs, .int (nI cn)]], [sa ty hs 14 (fun k => some (ad k 0))], (stW ty a r x y g), (hsW ty ad ur ux uy ug)]) := hD
        exact end_i (bs' := (fun (_ : Unit) => [[ob bc 8 [.ref tx, .ref (a 0), .ref (b 0), .ref hi, .ref sl]], [ob hi 2 [.ref hs, .int (nI cn)]], [sa ty hs 14 (fun k => some (ad k 0))], (stW ty a r x y g), (hsW ty ad ur ux uy ug)])) () hx hb hr hlocks hP hD hS (by first | rfl | decide | simp [c_1]) (Nat.le_of_ble_eq_true rfl) (Nat.le_of_ble_eq_true rfl) dL_tryGuard_23
    · exact absurd h9.2.2 hc1
  · first | exact absurd c_1 (by decide) | exact absurd (by decide) c_1
set_option maxHeartbeats 4000000 in
set_option maxRecDepth 100000 in
theorem c_T_tamper (l : Launch) (D : va_G) (ty : Nat → ClassId) (i9 : Int32) (bc tx hi sl : Nat) (b : Nat → Nat) (a : Nat → Nat) (r : Nat → Int32) (x y : Int64) (g : Nat → Nat → Int32) (hs cn : Nat) (ad : Nat → Nat → Nat) (ur : Nat → Nat → Int32) (ux uy : Nat → Int64) (ug : Nat → Nat → Nat → Int32) (hst : l.stackTraces = false) (hc : cn ≤ 14) (h0 : ¬ r 11 < 0) (hc0 : inI i9 3) : CTi l yL_tryTamper wsL_tryTamper ({ frames := 8, cells := 1, slots := 6, locals := 124 }) D ty [.ref bc, .int i9] [[ob bc 8 [.ref tx, .ref (a 0), .ref (b 0), .ref hi, .ref sl]], [ob hi 2 [.ref hs, .int (nI cn)]], [sa ty hs 14 (fun k => some (ad k 0))], (stW ty a r x y g), (hsW ty ad ur ux uy ug)] (fun (RET : Int32) (_ : Unit) => RET = (ptamper i9 r 11)) (fun (_ : Unit) => [[ob bc 8 [.ref tx, .ref (a 0), .ref (b 0), .ref hi, .ref sl]], [ob hi 2 [.ref hs, .int (nI (remC cn))]], [sa ty hs 14 (fun k => some ((remA cn ad) k 0))], (stW ty a (ptamper i9 r) x y (ptamG i9 r g)), (hsW ty (remA cn ad) (remF cn ur r) (remF cn ux x) (remF cn uy y) (remF cn ug g))]) := by
  refine CTi_ofH cL_tryTamper 3 (some .int) [(0, 5, 6, 29)] (by decide) rfl (Nat.le_of_ble_eq_true rfl) ?_
  intro p e s m args below meth c A hx hb hr hml hown hlocks hin hts hA hX hK hP hD ht0 ls hl
  have hown : s.vm.findClass RL = some m.cls := hown
  have hS : va_S A s.heap s.heap [] := va_S.rf
  have hl : lv_has ls 3 [(0, .ref bc), (1, .int i9)] := hl
  refine lv_aload_n hx hb dL_tryTamper_0 rfl (lv_at hl 0 rfl) ?_
  refine lv_iload_n hx hb dL_tryTamper_1 rfl (lv_at hl 1 rfl) ?_
  refine cVxi (As := [.int i9]) (rest := []) ⟨hx, hb, hml, hown, hts⟩ (c_X9_tamper l D ty i9 bc tx hi sl b a r x y g hs cn ad ur ux uy ug hst hc h0) (cwV 1 hts gL_tryTamper_X9_tamper rfl rfl rfl (by decide +kernel) ⟨Nat.le_of_ble_eq_true rfl, Nat.le_of_ble_eq_true rfl⟩) hK hX hP hD hS hA (pk (bs := [[ob bc 8 [.ref tx, .ref (a 0), .ref (b 0), .ref hi, .ref sl]], [ob hi 2 [.ref hs, .int (nI cn)]], [sa ty hs 14 (fun k => some (ad k 0))], (stW ty a r x y g), (hsW ty ad ur ux uy ug)]) (bsc := [[ob bc 8 [.ref tx, .ref (a 0), .ref (b 0), .ref hi, .ref sl]], [ob hi 2 [.ref hs, .int (nI cn)]], [sa ty hs 14 (fun k => some (ad k 0))], (stW ty a r x y g), (hsW ty ad ur ux uy ug)]) (bsr := []) [0, 1, 2, 3, 4] [] 5 rfl (by decide +kernel) rfl rfl) (ci := 8) rfl 0 rfl rfl hl.1 rfl (Nat.le_of_ble_eq_true rfl) dL_tryTamper_2 ⟨Nat.le_of_ble_eq_true rfl, Nat.le_of_ble_eq_true rfl⟩ (fun E hE ce q9 H locs hP hD hS hce hcv hcl => ?_) (fun r9 u9 h9 H locs hP hD hS => ?_)
  · skip
    obtain ⟨hEE, h0⟩ := hE
    exact absurd hc0 h0
  · skip
    have hP : va_P D vwCl (fl [[ob bc 8 [.ref tx, .ref (a 0), .ref (b 0), .ref hi, .ref sl]], [ob hi 2 [.ref hs, .int (nI (remC cn))]], [sa ty hs 14 (fun k => some ((remA cn ad) k 0))], (stW ty a (ptamper i9 r) x y (ptamG i9 r g)), (hsW ty (remA cn ad) (remF cn ur r) (remF cn ux x) (remF cn uy y) (remF cn ug g))]) H := by rw [List.append_nil] at hP; exact hP
    have hD : va_D A (fl [[ob bc 8 [.ref tx, .ref (a 0), .ref (b 0), .ref hi, .ref sl]], [ob hi 2 [.ref hs, .int (nI (remC cn))]], [sa ty hs 14 (fun k => some ((remA cn ad) k 0))], (stW ty a (ptamper i9 r) x y (ptamG i9 r g)), (hsW ty (remA cn ad) (remF cn ur r) (remF cn ux x) (remF cn uy y) (remF cn ug g))]) := by rw [List.append_nil] at hD; exact hD
    have h8 : r9 = (ptamper i9 r 11) := h9.1
    subst h8
    have hP : va_P D vwCl (fl [[ob bc 8 [.ref tx, .ref (a 0), .ref (b 0), .ref hi, .ref sl]], [ob hi 2 [.ref hs, .int (nI (remC cn))]], [sa ty hs 14 (fun k => some ((remA cn ad) k 0))], (stW ty a (ptamper i9 r) x y (ptamG i9 r g)), (hsW ty (remA cn ad) (remF cn ur r) (remF cn ux x) (remF cn uy y) (remF cn ug g))]) H := hP
    have hD : va_D A (fl [[ob bc 8 [.ref tx, .ref (a 0), .ref (b 0), .ref hi, .ref sl]], [ob hi 2 [.ref hs, .int (nI (remC cn))]], [sa ty hs 14 (fun k => some ((remA cn ad) k 0))], (stW ty a (ptamper i9 r) x y (ptamG i9 r g)), (hsW ty (remA cn ad) (remF cn ur r) (remF cn ux x) (remF cn uy y) (remF cn ug g))]) := hD
    exact end_i (bs' := (fun (_ : Unit) => [[ob bc 8 [.ref tx, .ref (a 0), .ref (b 0), .ref hi, .ref sl]], [ob hi 2 [.ref hs, .int (nI (remC cn))]], [sa ty hs 14 (fun k => some ((remA cn ad) k 0))], (stW ty a (ptamper i9 r) x y (ptamG i9 r g)), (hsW ty (remA cn ad) (remF cn ur r) (remF cn ux x) (remF cn uy y) (remF cn ug g))])) () hx hb hr hlocks hP hD hS (by first | rfl | decide | simp []) (Nat.le_of_ble_eq_true rfl) (Nat.le_of_ble_eq_true rfl) dL_tryTamper_5
set_option maxHeartbeats 4000000 in
set_option maxRecDepth 100000 in
theorem c_T_tamper_n0 (l : Launch) (D : va_G) (ty : Nat → ClassId) (i9 : Int32) (bc tx hi sl : Nat) (b : Nat → Nat) (a : Nat → Nat) (r : Nat → Int32) (x y : Int64) (g : Nat → Nat → Int32) (hs cn : Nat) (ad : Nat → Nat → Nat) (ur : Nat → Nat → Int32) (ux uy : Nat → Int64) (ug : Nat → Nat → Nat → Int32) (hst : l.stackTraces = false) (hc : cn ≤ 14) (h0 : ¬ r 11 < 0) (hc0 : ¬ (inI i9 3)) : CTi l yL_tryTamper wsL_tryTamper ({ frames := 8, cells := 1, slots := 6, locals := 124 }) D ty [.ref bc, .int i9] [[ob bc 8 [.ref tx, .ref (a 0), .ref (b 0), .ref hi, .ref sl]], [ob hi 2 [.ref hs, .int (nI cn)]], [sa ty hs 14 (fun k => some (ad k 0))], (stW ty a r x y g), (hsW ty ad ur ux uy ug)] (fun (RET : Int32) (_ : Unit) => RET = (-999999001)) (fun (_ : Unit) => [[ob bc 8 [.ref tx, .ref (a 0), .ref (b 0), .ref hi, .ref sl]], [ob hi 2 [.ref hs, .int (nI cn)]], [sa ty hs 14 (fun k => some (ad k 0))], (stW ty a r x y g), (hsW ty ad ur ux uy ug)]) := by
  refine CTi_ofH cL_tryTamper 3 (some .int) [(0, 5, 6, 29)] (by decide) rfl (Nat.le_of_ble_eq_true rfl) ?_
  intro p e s m args below meth c A hx hb hr hml hown hlocks hin hts hA hX hK hP hD ht0 ls hl
  have hown : s.vm.findClass RL = some m.cls := hown
  have hS : va_S A s.heap s.heap [] := va_S.rf
  have hl : lv_has ls 3 [(0, .ref bc), (1, .int i9)] := hl
  refine lv_aload_n hx hb dL_tryTamper_0 rfl (lv_at hl 0 rfl) ?_
  refine lv_iload_n hx hb dL_tryTamper_1 rfl (lv_at hl 1 rfl) ?_
  refine cVxi (As := [.int i9]) (rest := []) ⟨hx, hb, hml, hown, hts⟩ (c_X9_tamper l D ty i9 bc tx hi sl b a r x y g hs cn ad ur ux uy ug hst hc h0) (cwV 1 hts gL_tryTamper_X9_tamper rfl rfl rfl (by decide +kernel) ⟨Nat.le_of_ble_eq_true rfl, Nat.le_of_ble_eq_true rfl⟩) hK hX hP hD hS hA (pk (bs := [[ob bc 8 [.ref tx, .ref (a 0), .ref (b 0), .ref hi, .ref sl]], [ob hi 2 [.ref hs, .int (nI cn)]], [sa ty hs 14 (fun k => some (ad k 0))], (stW ty a r x y g), (hsW ty ad ur ux uy ug)]) (bsc := [[ob bc 8 [.ref tx, .ref (a 0), .ref (b 0), .ref hi, .ref sl]], [ob hi 2 [.ref hs, .int (nI cn)]], [sa ty hs 14 (fun k => some (ad k 0))], (stW ty a r x y g), (hsW ty ad ur ux uy ug)]) (bsr := []) [0, 1, 2, 3, 4] [] 5 rfl (by decide +kernel) rfl rfl) (ci := 8) rfl 0 rfl rfl hl.1 rfl (Nat.le_of_ble_eq_true rfl) dL_tryTamper_2 ⟨Nat.le_of_ble_eq_true rfl, Nat.le_of_ble_eq_true rfl⟩ (fun E hE ce q9 H locs hP hD hS hce hcv hcl => ?_) (fun r9 u9 h9 H locs hP hD hS => ?_)
  · skip
    obtain ⟨hEE, h0⟩ := hE
    subst hEE
    have hP : va_P D vwCl (fl [[ob bc 8 [.ref tx, .ref (a 0), .ref (b 0), .ref hi, .ref sl]], [ob hi 2 [.ref hs, .int (nI cn)]], [sa ty hs 14 (fun k => some (ad k 0))], (stW ty a r x y g), (hsW ty ad ur ux uy ug)]) H := by rw [List.append_nil] at hP; exact hP
    have hD : va_D A (fl [[ob bc 8 [.ref tx, .ref (a 0), .ref (b 0), .ref hi, .ref sl]], [ob hi 2 [.ref hs, .int (nI cn)]], [sa ty hs 14 (fun k => some (ad k 0))], (stW ty a r x y g), (hsW ty ad ur ux uy ug)]) := by rw [List.append_nil] at hD; exact hD
    refine vx_catch (own := RL) (name := EIO) (E := EIO) hown [] ⟨0, 5, 6, 29⟩ [] (ht0.trans rfl) (fun z hz => by cases hz) (by decide) (by decide) (hts (Cond.classLink RL 29 "java/lang/IndexOutOfBoundsException") (List.mem_of_getElem? (i := 1) rfl)) (va_Nw.use rfl hX.1.2.2.1.2.2) hce hcv hcl ?_
    refine lv_astore_n (lv' := [(2, .ref q9), (0, .ref bc), (1, .int i9)]) hx hb dL_tryTamper_6 rfl hl (by decide) rfl (fun ls hl => ?_)
    refine lv_ldc hx hb hown (hts (Cond.constant RL 31 (-999999001)) (List.mem_of_getElem? (i := 2) rfl)) dL_tryTamper_7 ?_
    have hP : va_P D vwCl (fl [[ob bc 8 [.ref tx, .ref (a 0), .ref (b 0), .ref hi, .ref sl]], [ob hi 2 [.ref hs, .int (nI cn)]], [sa ty hs 14 (fun k => some (ad k 0))], (stW ty a r x y g), (hsW ty ad ur ux uy ug)]) H := hP
    have hD : va_D A (fl [[ob bc 8 [.ref tx, .ref (a 0), .ref (b 0), .ref hi, .ref sl]], [ob hi 2 [.ref hs, .int (nI cn)]], [sa ty hs 14 (fun k => some (ad k 0))], (stW ty a r x y g), (hsW ty ad ur ux uy ug)]) := hD
    exact end_i (bs' := (fun (_ : Unit) => [[ob bc 8 [.ref tx, .ref (a 0), .ref (b 0), .ref hi, .ref sl]], [ob hi 2 [.ref hs, .int (nI cn)]], [sa ty hs 14 (fun k => some (ad k 0))], (stW ty a r x y g), (hsW ty ad ur ux uy ug)])) () hx hb hr hlocks hP hD hS (by first | rfl | decide | simp []) (Nat.le_of_ble_eq_true rfl) (Nat.le_of_ble_eq_true rfl) dL_tryTamper_9
  · exact absurd h9.2 hc0
set_option maxHeartbeats 4000000 in
set_option maxRecDepth 100000 in
theorem c_T_clearRows (l : Launch) (D : va_G) (ty : Nat → ClassId) (bc tx hi sl : Nat) (b : Nat → Nat) (a : Nat → Nat) (r : Nat → Int32) (x y : Int64) (g : Nat → Nat → Int32) (hs cn : Nat) (ad : Nat → Nat → Nat) (ur : Nat → Nat → Int32) (ux uy : Nat → Int64) (ug : Nat → Nat → Nat → Int32) (hst : l.stackTraces = false) (hc : cn ≤ 14) (hc0 : pdom r = 0) : CTi l yL_tryClearRows wsL_tryClearRows ({ frames := 8, cells := 1, slots := 6, locals := 123 }) D ty [.ref bc] [[ob bc 8 [.ref tx, .ref (a 0), .ref (b 0), .ref hi, .ref sl]], [ob hi 2 [.ref hs, .int (nI cn)]], [sa ty hs 14 (fun k => some (ad k 0))], (stW ty a r x y g), (hsW ty ad ur ux uy ug)] (fun (RET : Int32) (_ : Unit) => RET = (r 11)) (fun (_ : Unit) => [[ob bc 8 [.ref tx, .ref (a 0), .ref (b 0), .ref hi, .ref sl]], [ob hi 2 [.ref hs, .int (nI (remC cn))]], [sa ty hs 14 (fun k => some ((remA cn ad) k 0))], (stW ty a (upd r 11 0) x y g), (hsW ty (remA cn ad) (remF cn ur r) (remF cn ux x) (remF cn uy y) (remF cn ug g))]) := by
  refine CTi_ofH cL_tryClearRows 2 (some .int) [(0, 4, 5, 16)] (by decide) rfl (Nat.le_of_ble_eq_true rfl) ?_
  intro p e s m args below meth c A hx hb hr hml hown hlocks hin hts hA hX hK hP hD ht0 ls hl
  have hown : s.vm.findClass RL = some m.cls := hown
  have hS : va_S A s.heap s.heap [] := va_S.rf
  have hl : lv_has ls 2 [(0, .ref bc)] := hl
  refine lv_aload_n hx hb dL_tryClearRows_0 rfl (lv_at hl 0 rfl) ?_
  refine cVxi (As := []) (rest := []) ⟨hx, hb, hml, hown, hts⟩ (c_X9_clearRows l D ty bc tx hi sl b a r x y g hs cn ad ur ux uy ug hst hc) (cwV 0 hts gL_tryClearRows_X9_clearRows rfl rfl rfl (by decide +kernel) ⟨Nat.le_of_ble_eq_true rfl, Nat.le_of_ble_eq_true rfl⟩) hK hX hP hD hS hA (pk (bs := [[ob bc 8 [.ref tx, .ref (a 0), .ref (b 0), .ref hi, .ref sl]], [ob hi 2 [.ref hs, .int (nI cn)]], [sa ty hs 14 (fun k => some (ad k 0))], (stW ty a r x y g), (hsW ty ad ur ux uy ug)]) (bsc := [[ob bc 8 [.ref tx, .ref (a 0), .ref (b 0), .ref hi, .ref sl]], [ob hi 2 [.ref hs, .int (nI cn)]], [sa ty hs 14 (fun k => some (ad k 0))], (stW ty a r x y g), (hsW ty ad ur ux uy ug)]) (bsr := []) [0, 1, 2, 3, 4] [] 5 rfl (by decide +kernel) rfl rfl) (ci := 8) rfl 0 rfl rfl hl.1 rfl (Nat.le_of_ble_eq_true rfl) dL_tryClearRows_1 ⟨Nat.le_of_ble_eq_true rfl, Nat.le_of_ble_eq_true rfl⟩ (fun E hE ce q9 H locs hP hD hS hce hcv hcl => ?_) (fun r9 u9 h9 H locs hP hD hS => ?_)
  · skip
    obtain ⟨hEE, h0⟩ := hE
    exact absurd hc0 h0
  · skip
    have hP : va_P D vwCl (fl [[ob bc 8 [.ref tx, .ref (a 0), .ref (b 0), .ref hi, .ref sl]], [ob hi 2 [.ref hs, .int (nI (remC cn))]], [sa ty hs 14 (fun k => some ((remA cn ad) k 0))], (stW ty a (upd r 11 0) x y g), (hsW ty (remA cn ad) (remF cn ur r) (remF cn ux x) (remF cn uy y) (remF cn ug g))]) H := by rw [List.append_nil] at hP; exact hP
    have hD : va_D A (fl [[ob bc 8 [.ref tx, .ref (a 0), .ref (b 0), .ref hi, .ref sl]], [ob hi 2 [.ref hs, .int (nI (remC cn))]], [sa ty hs 14 (fun k => some ((remA cn ad) k 0))], (stW ty a (upd r 11 0) x y g), (hsW ty (remA cn ad) (remF cn ur r) (remF cn ux x) (remF cn uy y) (remF cn ug g))]) := by rw [List.append_nil] at hD; exact hD
    have h8 : r9 = (r 11) := h9.1
    subst h8
    have hP : va_P D vwCl (fl [[ob bc 8 [.ref tx, .ref (a 0), .ref (b 0), .ref hi, .ref sl]], [ob hi 2 [.ref hs, .int (nI (remC cn))]], [sa ty hs 14 (fun k => some ((remA cn ad) k 0))], (stW ty a (upd r 11 0) x y g), (hsW ty (remA cn ad) (remF cn ur r) (remF cn ux x) (remF cn uy y) (remF cn ug g))]) H := hP
    have hD : va_D A (fl [[ob bc 8 [.ref tx, .ref (a 0), .ref (b 0), .ref hi, .ref sl]], [ob hi 2 [.ref hs, .int (nI (remC cn))]], [sa ty hs 14 (fun k => some ((remA cn ad) k 0))], (stW ty a (upd r 11 0) x y g), (hsW ty (remA cn ad) (remF cn ur r) (remF cn ux x) (remF cn uy y) (remF cn ug g))]) := hD
    exact end_i (bs' := (fun (_ : Unit) => [[ob bc 8 [.ref tx, .ref (a 0), .ref (b 0), .ref hi, .ref sl]], [ob hi 2 [.ref hs, .int (nI (remC cn))]], [sa ty hs 14 (fun k => some ((remA cn ad) k 0))], (stW ty a (upd r 11 0) x y g), (hsW ty (remA cn ad) (remF cn ur r) (remF cn ux x) (remF cn uy y) (remF cn ug g))])) () hx hb hr hlocks hP hD hS (by first | rfl | decide | simp []) (Nat.le_of_ble_eq_true rfl) (Nat.le_of_ble_eq_true rfl) dL_tryClearRows_4
set_option maxHeartbeats 4000000 in
set_option maxRecDepth 100000 in
theorem c_T_clearRows_n0 (l : Launch) (D : va_G) (ty : Nat → ClassId) (bc tx hi sl : Nat) (b : Nat → Nat) (a : Nat → Nat) (r : Nat → Int32) (x y : Int64) (g : Nat → Nat → Int32) (hs cn : Nat) (ad : Nat → Nat → Nat) (ur : Nat → Nat → Int32) (ux uy : Nat → Int64) (ug : Nat → Nat → Nat → Int32) (hst : l.stackTraces = false) (hc : cn ≤ 14) (hc0 : ¬ (pdom r = 0)) : CTi l yL_tryClearRows wsL_tryClearRows ({ frames := 8, cells := 1, slots := 6, locals := 123 }) D ty [.ref bc] [[ob bc 8 [.ref tx, .ref (a 0), .ref (b 0), .ref hi, .ref sl]], [ob hi 2 [.ref hs, .int (nI cn)]], [sa ty hs 14 (fun k => some (ad k 0))], (stW ty a r x y g), (hsW ty ad ur ux uy ug)] (fun (RET : Int32) (_ : Unit) => RET = (-999999003)) (fun (_ : Unit) => [[ob bc 8 [.ref tx, .ref (a 0), .ref (b 0), .ref hi, .ref sl]], [ob hi 2 [.ref hs, .int (nI cn)]], [sa ty hs 14 (fun k => some (ad k 0))], (stW ty a r x y g), (hsW ty ad ur ux uy ug)]) := by
  refine CTi_ofH cL_tryClearRows 2 (some .int) [(0, 4, 5, 16)] (by decide) rfl (Nat.le_of_ble_eq_true rfl) ?_
  intro p e s m args below meth c A hx hb hr hml hown hlocks hin hts hA hX hK hP hD ht0 ls hl
  have hown : s.vm.findClass RL = some m.cls := hown
  have hS : va_S A s.heap s.heap [] := va_S.rf
  have hl : lv_has ls 2 [(0, .ref bc)] := hl
  refine lv_aload_n hx hb dL_tryClearRows_0 rfl (lv_at hl 0 rfl) ?_
  refine cVxi (As := []) (rest := []) ⟨hx, hb, hml, hown, hts⟩ (c_X9_clearRows l D ty bc tx hi sl b a r x y g hs cn ad ur ux uy ug hst hc) (cwV 0 hts gL_tryClearRows_X9_clearRows rfl rfl rfl (by decide +kernel) ⟨Nat.le_of_ble_eq_true rfl, Nat.le_of_ble_eq_true rfl⟩) hK hX hP hD hS hA (pk (bs := [[ob bc 8 [.ref tx, .ref (a 0), .ref (b 0), .ref hi, .ref sl]], [ob hi 2 [.ref hs, .int (nI cn)]], [sa ty hs 14 (fun k => some (ad k 0))], (stW ty a r x y g), (hsW ty ad ur ux uy ug)]) (bsc := [[ob bc 8 [.ref tx, .ref (a 0), .ref (b 0), .ref hi, .ref sl]], [ob hi 2 [.ref hs, .int (nI cn)]], [sa ty hs 14 (fun k => some (ad k 0))], (stW ty a r x y g), (hsW ty ad ur ux uy ug)]) (bsr := []) [0, 1, 2, 3, 4] [] 5 rfl (by decide +kernel) rfl rfl) (ci := 8) rfl 0 rfl rfl hl.1 rfl (Nat.le_of_ble_eq_true rfl) dL_tryClearRows_1 ⟨Nat.le_of_ble_eq_true rfl, Nat.le_of_ble_eq_true rfl⟩ (fun E hE ce q9 H locs hP hD hS hce hcv hcl => ?_) (fun r9 u9 h9 H locs hP hD hS => ?_)
  · skip
    obtain ⟨hEE, h0⟩ := hE
    subst hEE
    have hP : va_P D vwCl (fl [[ob bc 8 [.ref tx, .ref (a 0), .ref (b 0), .ref hi, .ref sl]], [ob hi 2 [.ref hs, .int (nI cn)]], [sa ty hs 14 (fun k => some (ad k 0))], (stW ty a r x y g), (hsW ty ad ur ux uy ug)]) H := by rw [List.append_nil] at hP; exact hP
    have hD : va_D A (fl [[ob bc 8 [.ref tx, .ref (a 0), .ref (b 0), .ref hi, .ref sl]], [ob hi 2 [.ref hs, .int (nI cn)]], [sa ty hs 14 (fun k => some (ad k 0))], (stW ty a r x y g), (hsW ty ad ur ux uy ug)]) := by rw [List.append_nil] at hD; exact hD
    refine vx_catch (own := RL) (name := EIS) (E := EIS) hown [] ⟨0, 4, 5, 16⟩ [] (ht0.trans rfl) (fun z hz => by cases hz) (by decide) (by decide) (hts (Cond.classLink RL 16 "java/lang/IllegalStateException") (List.mem_of_getElem? (i := 1) rfl)) (va_Nw.use rfl hX.1.2.2.1.2.1) hce hcv hcl ?_
    refine lv_astore_n (lv' := [(1, .ref q9), (0, .ref bc)]) hx hb dL_tryClearRows_5 rfl hl (by decide) rfl (fun ls hl => ?_)
    refine lv_ldc hx hb hown (hts (Cond.constant RL 18 (-999999003)) (List.mem_of_getElem? (i := 2) rfl)) dL_tryClearRows_6 ?_
    have hP : va_P D vwCl (fl [[ob bc 8 [.ref tx, .ref (a 0), .ref (b 0), .ref hi, .ref sl]], [ob hi 2 [.ref hs, .int (nI cn)]], [sa ty hs 14 (fun k => some (ad k 0))], (stW ty a r x y g), (hsW ty ad ur ux uy ug)]) H := hP
    have hD : va_D A (fl [[ob bc 8 [.ref tx, .ref (a 0), .ref (b 0), .ref hi, .ref sl]], [ob hi 2 [.ref hs, .int (nI cn)]], [sa ty hs 14 (fun k => some (ad k 0))], (stW ty a r x y g), (hsW ty ad ur ux uy ug)]) := hD
    exact end_i (bs' := (fun (_ : Unit) => [[ob bc 8 [.ref tx, .ref (a 0), .ref (b 0), .ref hi, .ref sl]], [ob hi 2 [.ref hs, .int (nI cn)]], [sa ty hs 14 (fun k => some (ad k 0))], (stW ty a r x y g), (hsW ty ad ur ux uy ug)])) () hx hb hr hlocks hP hD hS (by first | rfl | decide | simp []) (Nat.le_of_ble_eq_true rfl) (Nat.le_of_ble_eq_true rfl) dL_tryClearRows_8
  · exact absurd h9.2 hc0
set_option maxHeartbeats 4000000 in
set_option maxRecDepth 100000 in
theorem c_T_setAlarm (l : Launch) (D : va_G) (ty : Nat → ClassId) (i9 v9 : Int32) (bc tx hi sl : Nat) (b : Nat → Nat) (a : Nat → Nat) (r : Nat → Int32) (x y : Int64) (g : Nat → Nat → Int32) (hs cn : Nat) (ad : Nat → Nat → Nat) (ur : Nat → Nat → Int32) (ux uy : Nat → Int64) (ug : Nat → Nat → Nat → Int32) (hst : l.stackTraces = false) (hc : cn ≤ 14) (hc0 : inI i9 4) (hc1 : inR v9 0 1440) : CTi l yL_trySetAlarm wsL_trySetAlarm ({ frames := 8, cells := 2, slots := 12, locals := 127 }) D ty [.ref bc, .int i9, .int v9] [[ob bc 8 [.ref tx, .ref (a 0), .ref (b 0), .ref hi, .ref sl]], [ob hi 2 [.ref hs, .int (nI cn)]], [sa ty hs 14 (fun k => some (ad k 0))], (stW ty a r x y g), (hsW ty ad ur ux uy ug)] (fun (RET : Int32) (_ : Unit) => RET = (r (27 + 3 * i9.toNatClampNeg))) (fun (_ : Unit) => [[ob bc 8 [.ref tx, .ref (a 0), .ref (b 0), .ref hi, .ref sl]], [ob hi 2 [.ref hs, .int (nI (remC cn))]], [sa ty hs 14 (fun k => some ((remA cn ad) k 0))], (stW ty a (psetAl i9.toNatClampNeg v9 r) x y g), (hsW ty (remA cn ad) (remF cn ur r) (remF cn ux x) (remF cn uy y) (remF cn ug g))]) := by
  refine CTi_ofH cL_trySetAlarm 4 (some .int) [(0, 6, 7, 29), (0, 6, 11, 13)] (by decide) rfl (Nat.le_of_ble_eq_true rfl) ?_
  intro p e s m args below meth c A hx hb hr hml hown hlocks hin hts hA hX hK hP hD ht0 ls hl
  have hown : s.vm.findClass RL = some m.cls := hown
  have hS : va_S A s.heap s.heap [] := va_S.rf
  have hl : lv_has ls 4 [(0, .ref bc), (1, .int i9), (2, .int v9)] := hl
  refine lv_aload_n hx hb dL_trySetAlarm_0 rfl (lv_at hl 0 rfl) ?_
  refine lv_iload_n hx hb dL_trySetAlarm_1 rfl (lv_at hl 1 rfl) ?_
  refine lv_iload_n hx hb dL_trySetAlarm_2 rfl (lv_at hl 2 rfl) ?_
  refine cVxi (As := [.int i9, .int v9]) (rest := []) ⟨hx, hb, hml, hown, hts⟩ (c_X9_setAlarm l D ty i9 v9 bc tx hi sl b a r x y g hs cn ad ur ux uy ug hst hc) (cwV 2 hts gL_trySetAlarm_X9_setAlarm rfl rfl rfl (by decide +kernel) ⟨Nat.le_of_ble_eq_true rfl, Nat.le_of_ble_eq_true rfl⟩) hK hX hP hD hS hA (pk (bs := [[ob bc 8 [.ref tx, .ref (a 0), .ref (b 0), .ref hi, .ref sl]], [ob hi 2 [.ref hs, .int (nI cn)]], [sa ty hs 14 (fun k => some (ad k 0))], (stW ty a r x y g), (hsW ty ad ur ux uy ug)]) (bsc := [[ob bc 8 [.ref tx, .ref (a 0), .ref (b 0), .ref hi, .ref sl]], [ob hi 2 [.ref hs, .int (nI cn)]], [sa ty hs 14 (fun k => some (ad k 0))], (stW ty a r x y g), (hsW ty ad ur ux uy ug)]) (bsr := []) [0, 1, 2, 3, 4] [] 5 rfl (by decide +kernel) rfl rfl) (ci := 8) rfl 0 rfl rfl hl.1 rfl (Nat.le_of_ble_eq_true rfl) dL_trySetAlarm_3 ⟨Nat.le_of_ble_eq_true rfl, Nat.le_of_ble_eq_true rfl⟩ (fun E hE ce q9 H locs hP hD hS hce hcv hcl => ?_) (fun r9 u9 h9 H locs hP hD hS => ?_)
  · skip
    rcases hE with ⟨hEE, h0⟩ | ⟨hEE, k0, h1⟩
    · skip
      exact absurd hc0 h0
    · skip
      exact absurd hc1 h1
  · skip
    have hP : va_P D vwCl (fl [[ob bc 8 [.ref tx, .ref (a 0), .ref (b 0), .ref hi, .ref sl]], [ob hi 2 [.ref hs, .int (nI (remC cn))]], [sa ty hs 14 (fun k => some ((remA cn ad) k 0))], (stW ty a (psetAl i9.toNatClampNeg v9 r) x y g), (hsW ty (remA cn ad) (remF cn ur r) (remF cn ux x) (remF cn uy y) (remF cn ug g))]) H := by rw [List.append_nil] at hP; exact hP
    have hD : va_D A (fl [[ob bc 8 [.ref tx, .ref (a 0), .ref (b 0), .ref hi, .ref sl]], [ob hi 2 [.ref hs, .int (nI (remC cn))]], [sa ty hs 14 (fun k => some ((remA cn ad) k 0))], (stW ty a (psetAl i9.toNatClampNeg v9 r) x y g), (hsW ty (remA cn ad) (remF cn ur r) (remF cn ux x) (remF cn uy y) (remF cn ug g))]) := by rw [List.append_nil] at hD; exact hD
    have h8 : r9 = (r (27 + 3 * i9.toNatClampNeg)) := h9.1
    subst h8
    have hP : va_P D vwCl (fl [[ob bc 8 [.ref tx, .ref (a 0), .ref (b 0), .ref hi, .ref sl]], [ob hi 2 [.ref hs, .int (nI (remC cn))]], [sa ty hs 14 (fun k => some ((remA cn ad) k 0))], (stW ty a (psetAl i9.toNatClampNeg v9 r) x y g), (hsW ty (remA cn ad) (remF cn ur r) (remF cn ux x) (remF cn uy y) (remF cn ug g))]) H := hP
    have hD : va_D A (fl [[ob bc 8 [.ref tx, .ref (a 0), .ref (b 0), .ref hi, .ref sl]], [ob hi 2 [.ref hs, .int (nI (remC cn))]], [sa ty hs 14 (fun k => some ((remA cn ad) k 0))], (stW ty a (psetAl i9.toNatClampNeg v9 r) x y g), (hsW ty (remA cn ad) (remF cn ur r) (remF cn ux x) (remF cn uy y) (remF cn ug g))]) := hD
    exact end_i (bs' := (fun (_ : Unit) => [[ob bc 8 [.ref tx, .ref (a 0), .ref (b 0), .ref hi, .ref sl]], [ob hi 2 [.ref hs, .int (nI (remC cn))]], [sa ty hs 14 (fun k => some ((remA cn ad) k 0))], (stW ty a (psetAl i9.toNatClampNeg v9 r) x y g), (hsW ty (remA cn ad) (remF cn ur r) (remF cn ux x) (remF cn uy y) (remF cn ug g))])) () hx hb hr hlocks hP hD hS (by first | rfl | decide | simp []) (Nat.le_of_ble_eq_true rfl) (Nat.le_of_ble_eq_true rfl) dL_trySetAlarm_6
set_option maxHeartbeats 4000000 in
set_option maxRecDepth 100000 in
theorem c_T_setAlarm_n0 (l : Launch) (D : va_G) (ty : Nat → ClassId) (i9 v9 : Int32) (bc tx hi sl : Nat) (b : Nat → Nat) (a : Nat → Nat) (r : Nat → Int32) (x y : Int64) (g : Nat → Nat → Int32) (hs cn : Nat) (ad : Nat → Nat → Nat) (ur : Nat → Nat → Int32) (ux uy : Nat → Int64) (ug : Nat → Nat → Nat → Int32) (hst : l.stackTraces = false) (hc : cn ≤ 14) (hc0 : ¬ (inI i9 4)) : CTi l yL_trySetAlarm wsL_trySetAlarm ({ frames := 8, cells := 2, slots := 12, locals := 127 }) D ty [.ref bc, .int i9, .int v9] [[ob bc 8 [.ref tx, .ref (a 0), .ref (b 0), .ref hi, .ref sl]], [ob hi 2 [.ref hs, .int (nI cn)]], [sa ty hs 14 (fun k => some (ad k 0))], (stW ty a r x y g), (hsW ty ad ur ux uy ug)] (fun (RET : Int32) (_ : Unit) => RET = (-999999001)) (fun (_ : Unit) => [[ob bc 8 [.ref tx, .ref (a 0), .ref (b 0), .ref hi, .ref sl]], [ob hi 2 [.ref hs, .int (nI cn)]], [sa ty hs 14 (fun k => some (ad k 0))], (stW ty a r x y g), (hsW ty ad ur ux uy ug)]) := by
  refine CTi_ofH cL_trySetAlarm 4 (some .int) [(0, 6, 7, 29), (0, 6, 11, 13)] (by decide) rfl (Nat.le_of_ble_eq_true rfl) ?_
  intro p e s m args below meth c A hx hb hr hml hown hlocks hin hts hA hX hK hP hD ht0 ls hl
  have hown : s.vm.findClass RL = some m.cls := hown
  have hS : va_S A s.heap s.heap [] := va_S.rf
  have hl : lv_has ls 4 [(0, .ref bc), (1, .int i9), (2, .int v9)] := hl
  refine lv_aload_n hx hb dL_trySetAlarm_0 rfl (lv_at hl 0 rfl) ?_
  refine lv_iload_n hx hb dL_trySetAlarm_1 rfl (lv_at hl 1 rfl) ?_
  refine lv_iload_n hx hb dL_trySetAlarm_2 rfl (lv_at hl 2 rfl) ?_
  refine cVxi (As := [.int i9, .int v9]) (rest := []) ⟨hx, hb, hml, hown, hts⟩ (c_X9_setAlarm l D ty i9 v9 bc tx hi sl b a r x y g hs cn ad ur ux uy ug hst hc) (cwV 2 hts gL_trySetAlarm_X9_setAlarm rfl rfl rfl (by decide +kernel) ⟨Nat.le_of_ble_eq_true rfl, Nat.le_of_ble_eq_true rfl⟩) hK hX hP hD hS hA (pk (bs := [[ob bc 8 [.ref tx, .ref (a 0), .ref (b 0), .ref hi, .ref sl]], [ob hi 2 [.ref hs, .int (nI cn)]], [sa ty hs 14 (fun k => some (ad k 0))], (stW ty a r x y g), (hsW ty ad ur ux uy ug)]) (bsc := [[ob bc 8 [.ref tx, .ref (a 0), .ref (b 0), .ref hi, .ref sl]], [ob hi 2 [.ref hs, .int (nI cn)]], [sa ty hs 14 (fun k => some (ad k 0))], (stW ty a r x y g), (hsW ty ad ur ux uy ug)]) (bsr := []) [0, 1, 2, 3, 4] [] 5 rfl (by decide +kernel) rfl rfl) (ci := 8) rfl 0 rfl rfl hl.1 rfl (Nat.le_of_ble_eq_true rfl) dL_trySetAlarm_3 ⟨Nat.le_of_ble_eq_true rfl, Nat.le_of_ble_eq_true rfl⟩ (fun E hE ce q9 H locs hP hD hS hce hcv hcl => ?_) (fun r9 u9 h9 H locs hP hD hS => ?_)
  · skip
    rcases hE with ⟨hEE, h0⟩ | ⟨hEE, k0, h1⟩
    · skip
      subst hEE
      have hP : va_P D vwCl (fl [[ob bc 8 [.ref tx, .ref (a 0), .ref (b 0), .ref hi, .ref sl]], [ob hi 2 [.ref hs, .int (nI cn)]], [sa ty hs 14 (fun k => some (ad k 0))], (stW ty a r x y g), (hsW ty ad ur ux uy ug)]) H := by rw [List.append_nil] at hP; exact hP
      have hD : va_D A (fl [[ob bc 8 [.ref tx, .ref (a 0), .ref (b 0), .ref hi, .ref sl]], [ob hi 2 [.ref hs, .int (nI cn)]], [sa ty hs 14 (fun k => some (ad k 0))], (stW ty a r x y g), (hsW ty ad ur ux uy ug)]) := by rw [List.append_nil] at hD; exact hD
      refine vx_catch (own := RL) (name := EIO) (E := EIO) hown [] ⟨0, 6, 7, 29⟩ [⟨0, 6, 11, 13⟩] (ht0.trans rfl) (fun z hz => by cases hz) (by decide) (by decide) (hts (Cond.classLink RL 29 "java/lang/IndexOutOfBoundsException") (List.mem_of_getElem? (i := 1) rfl)) (va_Nw.use rfl hX.1.2.2.1.2.2) hce hcv hcl ?_
      refine lv_astore_n (lv' := [(3, .ref q9), (0, .ref bc), (1, .int i9), (2, .int v9)]) hx hb dL_trySetAlarm_7 rfl hl (by decide) rfl (fun ls hl => ?_)
      refine lv_ldc hx hb hown (hts (Cond.constant RL 31 (-999999001)) (List.mem_of_getElem? (i := 3) rfl)) dL_trySetAlarm_8 ?_
      have hP : va_P D vwCl (fl [[ob bc 8 [.ref tx, .ref (a 0), .ref (b 0), .ref hi, .ref sl]], [ob hi 2 [.ref hs, .int (nI cn)]], [sa ty hs 14 (fun k => some (ad k 0))], (stW ty a r x y g), (hsW ty ad ur ux uy ug)]) H := hP
      have hD : va_D A (fl [[ob bc 8 [.ref tx, .ref (a 0), .ref (b 0), .ref hi, .ref sl]], [ob hi 2 [.ref hs, .int (nI cn)]], [sa ty hs 14 (fun k => some (ad k 0))], (stW ty a r x y g), (hsW ty ad ur ux uy ug)]) := hD
      exact end_i (bs' := (fun (_ : Unit) => [[ob bc 8 [.ref tx, .ref (a 0), .ref (b 0), .ref hi, .ref sl]], [ob hi 2 [.ref hs, .int (nI cn)]], [sa ty hs 14 (fun k => some (ad k 0))], (stW ty a r x y g), (hsW ty ad ur ux uy ug)])) () hx hb hr hlocks hP hD hS (by first | rfl | decide | simp []) (Nat.le_of_ble_eq_true rfl) (Nat.le_of_ble_eq_true rfl) dL_trySetAlarm_10
    · skip
      exact absurd k0 hc0
  · exact absurd h9.2.1 hc0
set_option maxHeartbeats 4000000 in
set_option maxRecDepth 100000 in
theorem c_T_setAlarm_n1 (l : Launch) (D : va_G) (ty : Nat → ClassId) (i9 v9 : Int32) (bc tx hi sl : Nat) (b : Nat → Nat) (a : Nat → Nat) (r : Nat → Int32) (x y : Int64) (g : Nat → Nat → Int32) (hs cn : Nat) (ad : Nat → Nat → Nat) (ur : Nat → Nat → Int32) (ux uy : Nat → Int64) (ug : Nat → Nat → Nat → Int32) (hst : l.stackTraces = false) (hc : cn ≤ 14) (hc0 : inI i9 4) (hc1 : ¬ (inR v9 0 1440)) : CTi l yL_trySetAlarm wsL_trySetAlarm ({ frames := 8, cells := 2, slots := 12, locals := 127 }) D ty [.ref bc, .int i9, .int v9] [[ob bc 8 [.ref tx, .ref (a 0), .ref (b 0), .ref hi, .ref sl]], [ob hi 2 [.ref hs, .int (nI cn)]], [sa ty hs 14 (fun k => some (ad k 0))], (stW ty a r x y g), (hsW ty ad ur ux uy ug)] (fun (RET : Int32) (_ : Unit) => RET = (-999999002)) (fun (_ : Unit) => [[ob bc 8 [.ref tx, .ref (a 0), .ref (b 0), .ref hi, .ref sl]], [ob hi 2 [.ref hs, .int (nI cn)]], [sa ty hs 14 (fun k => some (ad k 0))], (stW ty a r x y g), (hsW ty ad ur ux uy ug)]) := by
  refine CTi_ofH cL_trySetAlarm 4 (some .int) [(0, 6, 7, 29), (0, 6, 11, 13)] (by decide) rfl (Nat.le_of_ble_eq_true rfl) ?_
  intro p e s m args below meth c A hx hb hr hml hown hlocks hin hts hA hX hK hP hD ht0 ls hl
  have hown : s.vm.findClass RL = some m.cls := hown
  have hS : va_S A s.heap s.heap [] := va_S.rf
  have hl : lv_has ls 4 [(0, .ref bc), (1, .int i9), (2, .int v9)] := hl
  refine lv_aload_n hx hb dL_trySetAlarm_0 rfl (lv_at hl 0 rfl) ?_
  refine lv_iload_n hx hb dL_trySetAlarm_1 rfl (lv_at hl 1 rfl) ?_
  refine lv_iload_n hx hb dL_trySetAlarm_2 rfl (lv_at hl 2 rfl) ?_
  refine cVxi (As := [.int i9, .int v9]) (rest := []) ⟨hx, hb, hml, hown, hts⟩ (c_X9_setAlarm l D ty i9 v9 bc tx hi sl b a r x y g hs cn ad ur ux uy ug hst hc) (cwV 2 hts gL_trySetAlarm_X9_setAlarm rfl rfl rfl (by decide +kernel) ⟨Nat.le_of_ble_eq_true rfl, Nat.le_of_ble_eq_true rfl⟩) hK hX hP hD hS hA (pk (bs := [[ob bc 8 [.ref tx, .ref (a 0), .ref (b 0), .ref hi, .ref sl]], [ob hi 2 [.ref hs, .int (nI cn)]], [sa ty hs 14 (fun k => some (ad k 0))], (stW ty a r x y g), (hsW ty ad ur ux uy ug)]) (bsc := [[ob bc 8 [.ref tx, .ref (a 0), .ref (b 0), .ref hi, .ref sl]], [ob hi 2 [.ref hs, .int (nI cn)]], [sa ty hs 14 (fun k => some (ad k 0))], (stW ty a r x y g), (hsW ty ad ur ux uy ug)]) (bsr := []) [0, 1, 2, 3, 4] [] 5 rfl (by decide +kernel) rfl rfl) (ci := 8) rfl 0 rfl rfl hl.1 rfl (Nat.le_of_ble_eq_true rfl) dL_trySetAlarm_3 ⟨Nat.le_of_ble_eq_true rfl, Nat.le_of_ble_eq_true rfl⟩ (fun E hE ce q9 H locs hP hD hS hce hcv hcl => ?_) (fun r9 u9 h9 H locs hP hD hS => ?_)
  · skip
    rcases hE with ⟨hEE, h0⟩ | ⟨hEE, k0, h1⟩
    · skip
      exact absurd hc0 h0
    · skip
      subst hEE
      have hP : va_P D vwCl (fl [[ob bc 8 [.ref tx, .ref (a 0), .ref (b 0), .ref hi, .ref sl]], [ob hi 2 [.ref hs, .int (nI cn)]], [sa ty hs 14 (fun k => some (ad k 0))], (stW ty a r x y g), (hsW ty ad ur ux uy ug)]) H := by rw [List.append_nil] at hP; exact hP
      have hD : va_D A (fl [[ob bc 8 [.ref tx, .ref (a 0), .ref (b 0), .ref hi, .ref sl]], [ob hi 2 [.ref hs, .int (nI cn)]], [sa ty hs 14 (fun k => some (ad k 0))], (stW ty a r x y g), (hsW ty ad ur ux uy ug)]) := by rw [List.append_nil] at hD; exact hD
      refine vx_catch (own := RL) (name := EIA) (E := EIA) hown [⟨0, 6, 7, 29⟩] ⟨0, 6, 11, 13⟩ [] (ht0.trans rfl) (List.forall_mem_cons.mpr ⟨Or.inr ⟨by decide, _, (hts (Cond.classLink RL 29 "java/lang/IndexOutOfBoundsException") (List.mem_of_getElem? (i := 1) rfl)), hX.1.2.2.2.1.1.2.1⟩, (fun z hz => absurd hz List.not_mem_nil)⟩) (by decide) (by decide) (hts (Cond.classLink RL 13 "java/lang/IllegalArgumentException") (List.mem_of_getElem? (i := 2) rfl)) (va_Nw.use rfl hX.1.2.2.1.1) hce hcv hcl ?_
      refine lv_astore_n (lv' := [(3, .ref q9), (0, .ref bc), (1, .int i9), (2, .int v9)]) hx hb dL_trySetAlarm_11 rfl hl (by decide) rfl (fun ls hl => ?_)
      refine lv_ldc hx hb hown (hts (Cond.constant RL 15 (-999999002)) (List.mem_of_getElem? (i := 4) rfl)) dL_trySetAlarm_12 ?_
      have hP : va_P D vwCl (fl [[ob bc 8 [.ref tx, .ref (a 0), .ref (b 0), .ref hi, .ref sl]], [ob hi 2 [.ref hs, .int (nI cn)]], [sa ty hs 14 (fun k => some (ad k 0))], (stW ty a r x y g), (hsW ty ad ur ux uy ug)]) H := hP
      have hD : va_D A (fl [[ob bc 8 [.ref tx, .ref (a 0), .ref (b 0), .ref hi, .ref sl]], [ob hi 2 [.ref hs, .int (nI cn)]], [sa ty hs 14 (fun k => some (ad k 0))], (stW ty a r x y g), (hsW ty ad ur ux uy ug)]) := hD
      exact end_i (bs' := (fun (_ : Unit) => [[ob bc 8 [.ref tx, .ref (a 0), .ref (b 0), .ref hi, .ref sl]], [ob hi 2 [.ref hs, .int (nI cn)]], [sa ty hs 14 (fun k => some (ad k 0))], (stW ty a r x y g), (hsW ty ad ur ux uy ug)])) () hx hb hr hlocks hP hD hS (by first | rfl | decide | simp []) (Nat.le_of_ble_eq_true rfl) (Nat.le_of_ble_eq_true rfl) dL_trySetAlarm_14
  · exact absurd h9.2.2 hc1
set_option maxHeartbeats 4000000 in
set_option maxRecDepth 100000 in
theorem c_T_battery (l : Launch) (D : va_G) (ty : Nat → ClassId) (v9 : Int32) (bc tx hi sl : Nat) (b : Nat → Nat) (a : Nat → Nat) (r : Nat → Int32) (x y : Int64) (g : Nat → Nat → Int32) (hs cn : Nat) (ad : Nat → Nat → Nat) (ur : Nat → Nat → Int32) (ux uy : Nat → Int64) (ug : Nat → Nat → Nat → Int32) (hst : l.stackTraces = false) (hc : cn ≤ 14) (hc0 : inR v9 0 9999) : CTi l yL_tryBattery wsL_tryBattery ({ frames := 8, cells := 1, slots := 6, locals := 125 }) D ty [.ref bc, .int v9] [[ob bc 8 [.ref tx, .ref (a 0), .ref (b 0), .ref hi, .ref sl]], [ob hi 2 [.ref hs, .int (nI cn)]], [sa ty hs 14 (fun k => some (ad k 0))], (stW ty a r x y g), (hsW ty ad ur ux uy ug)] (fun (RET : Int32) (_ : Unit) => RET = (pdom (pcharge v9 r))) (fun (_ : Unit) => [[ob bc 8 [.ref tx, .ref (a 0), .ref (b 0), .ref hi, .ref sl]], [ob hi 2 [.ref hs, .int (nI (remC cn))]], [sa ty hs 14 (fun k => some ((remA cn ad) k 0))], (stW ty a (pcharge v9 r) x y g), (hsW ty (remA cn ad) (remF cn ur r) (remF cn ux x) (remF cn uy y) (remF cn ug g))]) := by
  refine CTi_ofH cL_tryBattery 3 (some .int) [(0, 5, 6, 13)] (by decide) rfl (Nat.le_of_ble_eq_true rfl) ?_
  intro p e s m args below meth c A hx hb hr hml hown hlocks hin hts hA hX hK hP hD ht0 ls hl
  have hown : s.vm.findClass RL = some m.cls := hown
  have hS : va_S A s.heap s.heap [] := va_S.rf
  have hl : lv_has ls 3 [(0, .ref bc), (1, .int v9)] := hl
  refine lv_aload_n hx hb dL_tryBattery_0 rfl (lv_at hl 0 rfl) ?_
  refine lv_iload_n hx hb dL_tryBattery_1 rfl (lv_at hl 1 rfl) ?_
  refine cVxi (As := [.int v9]) (rest := []) ⟨hx, hb, hml, hown, hts⟩ (c_X9_battery l D ty v9 bc tx hi sl b a r x y g hs cn ad ur ux uy ug hst hc) (cwV 1 hts gL_tryBattery_X9_battery rfl rfl rfl (by decide +kernel) ⟨Nat.le_of_ble_eq_true rfl, Nat.le_of_ble_eq_true rfl⟩) hK hX hP hD hS hA (pk (bs := [[ob bc 8 [.ref tx, .ref (a 0), .ref (b 0), .ref hi, .ref sl]], [ob hi 2 [.ref hs, .int (nI cn)]], [sa ty hs 14 (fun k => some (ad k 0))], (stW ty a r x y g), (hsW ty ad ur ux uy ug)]) (bsc := [[ob bc 8 [.ref tx, .ref (a 0), .ref (b 0), .ref hi, .ref sl]], [ob hi 2 [.ref hs, .int (nI cn)]], [sa ty hs 14 (fun k => some (ad k 0))], (stW ty a r x y g), (hsW ty ad ur ux uy ug)]) (bsr := []) [0, 1, 2, 3, 4] [] 5 rfl (by decide +kernel) rfl rfl) (ci := 8) rfl 0 rfl rfl hl.1 rfl (Nat.le_of_ble_eq_true rfl) dL_tryBattery_2 ⟨Nat.le_of_ble_eq_true rfl, Nat.le_of_ble_eq_true rfl⟩ (fun E hE ce q9 H locs hP hD hS hce hcv hcl => ?_) (fun r9 u9 h9 H locs hP hD hS => ?_)
  · skip
    obtain ⟨hEE, h0⟩ := hE
    exact absurd hc0 h0
  · skip
    have hP : va_P D vwCl (fl [[ob bc 8 [.ref tx, .ref (a 0), .ref (b 0), .ref hi, .ref sl]], [ob hi 2 [.ref hs, .int (nI (remC cn))]], [sa ty hs 14 (fun k => some ((remA cn ad) k 0))], (stW ty a (pcharge v9 r) x y g), (hsW ty (remA cn ad) (remF cn ur r) (remF cn ux x) (remF cn uy y) (remF cn ug g))]) H := by rw [List.append_nil] at hP; exact hP
    have hD : va_D A (fl [[ob bc 8 [.ref tx, .ref (a 0), .ref (b 0), .ref hi, .ref sl]], [ob hi 2 [.ref hs, .int (nI (remC cn))]], [sa ty hs 14 (fun k => some ((remA cn ad) k 0))], (stW ty a (pcharge v9 r) x y g), (hsW ty (remA cn ad) (remF cn ur r) (remF cn ux x) (remF cn uy y) (remF cn ug g))]) := by rw [List.append_nil] at hD; exact hD
    have h8 : r9 = (pdom (pcharge v9 r)) := h9.1
    subst h8
    have hP : va_P D vwCl (fl [[ob bc 8 [.ref tx, .ref (a 0), .ref (b 0), .ref hi, .ref sl]], [ob hi 2 [.ref hs, .int (nI (remC cn))]], [sa ty hs 14 (fun k => some ((remA cn ad) k 0))], (stW ty a (pcharge v9 r) x y g), (hsW ty (remA cn ad) (remF cn ur r) (remF cn ux x) (remF cn uy y) (remF cn ug g))]) H := hP
    have hD : va_D A (fl [[ob bc 8 [.ref tx, .ref (a 0), .ref (b 0), .ref hi, .ref sl]], [ob hi 2 [.ref hs, .int (nI (remC cn))]], [sa ty hs 14 (fun k => some ((remA cn ad) k 0))], (stW ty a (pcharge v9 r) x y g), (hsW ty (remA cn ad) (remF cn ur r) (remF cn ux x) (remF cn uy y) (remF cn ug g))]) := hD
    exact end_i (bs' := (fun (_ : Unit) => [[ob bc 8 [.ref tx, .ref (a 0), .ref (b 0), .ref hi, .ref sl]], [ob hi 2 [.ref hs, .int (nI (remC cn))]], [sa ty hs 14 (fun k => some ((remA cn ad) k 0))], (stW ty a (pcharge v9 r) x y g), (hsW ty (remA cn ad) (remF cn ur r) (remF cn ux x) (remF cn uy y) (remF cn ug g))])) () hx hb hr hlocks hP hD hS (by first | rfl | decide | simp []) (Nat.le_of_ble_eq_true rfl) (Nat.le_of_ble_eq_true rfl) dL_tryBattery_5
