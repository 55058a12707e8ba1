set_option maxHeartbeats 4000000 in
set_option maxRecDepth 100000 in
theorem c_L_append (l : Launch) (D : va_G) (ty : Nat → ClassId) (c9 : Int32) (bc tx hi sl : Nat) (b : Nat → Nat) (a : Nat → Nat) (cod told ln : Nat) (cd : Nat → Int32) (p9 z1 z2 z3 : Int32) (ot : Nat) (of : Nat → Int64) (hst : l.stackTraces = false) (hl6 : ln ≤ 60) (hc0 : inR c9 0 255) (hc1 : ln < 60) : CTi l yL_append wsL_append ({ frames := 8, cells := 2, slots := 12, locals := 125 }) D ty [.ref bc, .int c9, .ref ot] [[la ty ot 1 of], [ob bc 8 [.ref tx, .ref (a 0), .ref (b 0), .ref hi, .ref sl]], [ob tx 7 [.ref cod, .int (nI ln), .int p9, .int z1, .int z2, .int z3, .ref told]], [ia ty cod 60 cd]] (fun (RET : Int32) (_ : Unit) => RET = 0) (fun (_ : Unit) => [[la ty ot 1 (vp_updL of 0 (Int32.toInt64 (nI (ln + 1))))], [ob bc 8 [.ref tx, .ref (a 0), .ref (b 0), .ref hi, .ref sl]], [ob tx 7 [.ref cod, .int (nI (ln + 1)), .int p9, .int z1, .int z2, .int z3, .ref told]], [ia ty cod 60 (upd cd ln c9)]]) := by
  refine CTi_ofH cL_append 4 (some .int) [(0, 9, 12, 13), (0, 9, 15, 15)] (by decide) rfl (Nat.le_of_ble_eq_true rfl) ?_
  intro p e s m args below meth c A hx hb hr hml hown hlocks hin hts hA hX hK hP hD ht0 ls hl
  have hown : s.vm.findClass RL = some m.cls := hown
  have hS : va_S A s.heap s.heap [] := va_S.rf
  have hl : lv_has ls 4 [(0, .ref bc), (1, .int c9), (2, .ref ot)] := hl
  refine lv_aload_n hx hb dL_append_0 rfl (lv_at hl 2 rfl) ?_
  refine lv_iconst (v := 0) hx hb dL_append_1 (by decide) ?_
  refine lv_aload_n hx hb dL_append_2 rfl (lv_at hl 0 rfl) ?_
  refine lv_iload_n hx hb dL_append_3 rfl (lv_at hl 1 rfl) ?_
  refine cVxi (As := [.int c9]) (rest := [.int 0, .ref ot]) ⟨hx, hb, hml, hown, hts⟩ (c_X9_append l D ty c9 bc tx hi sl b a cod told ln cd p9 z1 z2 z3 hst hl6) (cwV 1 hts gL_append_X9_append rfl rfl rfl (by decide +kernel) ⟨Nat.le_of_ble_eq_true rfl, Nat.le_of_ble_eq_true rfl⟩) hK hX hP hD hS hA (pk (bs := [[la ty ot 1 of], [ob bc 8 [.ref tx, .ref (a 0), .ref (b 0), .ref hi, .ref sl]], [ob tx 7 [.ref cod, .int (nI ln), .int p9, .int z1, .int z2, .int z3, .ref told]], [ia ty cod 60 cd]]) (bsc := [[ob bc 8 [.ref tx, .ref (a 0), .ref (b 0), .ref hi, .ref sl]], [ob tx 7 [.ref cod, .int (nI ln), .int p9, .int z1, .int z2, .int z3, .ref told]], [ia ty cod 60 cd]]) (bsr := [[la ty ot 1 of]]) [1, 2, 3] [0] 4 rfl (by decide +kernel) rfl rfl) (ci := 8) rfl 0 rfl rfl hl.1 rfl (Nat.le_of_ble_eq_true rfl) dL_append_4 ⟨Nat.le_of_ble_eq_true rfl, Nat.le_of_ble_eq_true rfl⟩ (fun E hE ce q9 H locs hP hD hS hce hcv hcl => ?_) (fun r9 u9 h9 H locs hP hD hS => ?_)
  · skip
    rcases hE with ⟨hEE, h0⟩ | ⟨hEE, k0, h1⟩
    · skip
      exact absurd hc0 h0
    · skip
      exact absurd hc1 h1
  · skip
    have hP : va_P D vwCl (fl [[la ty ot 1 of], [ob bc 8 [.ref tx, .ref (a 0), .ref (b 0), .ref hi, .ref sl]], [ob tx 7 [.ref cod, .int (nI (ln + 1)), .int p9, .int z1, .int z2, .int z3, .ref told]], [ia ty cod 60 (upd cd ln c9)]]) H := P_perm (po (bs := [[ob bc 8 [.ref tx, .ref (a 0), .ref (b 0), .ref hi, .ref sl]], [ob tx 7 [.ref cod, .int (nI (ln + 1)), .int p9, .int z1, .int z2, .int z3, .ref told]], [ia ty cod 60 (upd cd ln c9)], [la ty ot 1 of]]) [3, 0, 1, 2] 4 rfl (by decide +kernel) rfl) hP
    have hD : va_D A (fl [[la ty ot 1 of], [ob bc 8 [.ref tx, .ref (a 0), .ref (b 0), .ref hi, .ref sl]], [ob tx 7 [.ref cod, .int (nI (ln + 1)), .int p9, .int z1, .int z2, .int z3, .ref told]], [ia ty cod 60 (upd cd ln c9)]]) := D_perm (po (bs := [[ob bc 8 [.ref tx, .ref (a 0), .ref (b 0), .ref hi, .ref sl]], [ob tx 7 [.ref cod, .int (nI (ln + 1)), .int p9, .int z1, .int z2, .int z3, .ref told]], [ia ty cod 60 (upd cd ln c9)], [la ty ot 1 of]]) [3, 0, 1, 2] 4 rfl (by decide +kernel) rfl) hD
    have h8 : r9 = (nI (ln + 1)) := h9.1
    subst h8
    refine lv_i2l (v := (Int32.toInt64 (nI (ln + 1)))) hx hb dL_append_7 rfl ?_
    refine k_last hx hb hK hP hD hS 0 rfl 0 rfl (by decide) (Nat.le_of_ble_eq_true rfl) dL_append_8 (fun H locs hP hD hS => ?_)
    have hP : va_P D vwCl (fl [[la ty ot 1 (vp_updL of 0 (Int32.toInt64 (nI (ln + 1))))], [ob bc 8 [.ref tx, .ref (a 0), .ref (b 0), .ref hi, .ref sl]], [ob tx 7 [.ref cod, .int (nI (ln + 1)), .int p9, .int z1, .int z2, .int z3, .ref told]], [ia ty cod 60 (upd cd ln c9)]]) H := hP
    have hD : va_D A (fl [[la ty ot 1 (vp_updL of 0 (Int32.toInt64 (nI (ln + 1))))], [ob bc 8 [.ref tx, .ref (a 0), .ref (b 0), .ref hi, .ref sl]], [ob tx 7 [.ref cod, .int (nI (ln + 1)), .int p9, .int z1, .int z2, .int z3, .ref told]], [ia ty cod 60 (upd cd ln c9)]]) := hD
    refine lv_goto (tgt := 18) hx hb dL_append_9 (by decide) ?_
    refine lv_iconst (v := 0) hx hb dL_append_18 (by decide) ?_
    have hP : va_P D vwCl (fl [[la ty ot 1 (vp_updL of 0 (Int32.toInt64 (nI (ln + 1))))], [ob bc 8 [.ref tx, .ref (a 0), .ref (b 0), .ref hi, .ref sl]], [ob tx 7 [.ref cod, .int (nI (ln + 1)), .int p9, .int z1, .int z2, .int z3, .ref told]], [ia ty cod 60 (upd cd ln c9)]]) H := hP
    have hD : va_D A (fl [[la ty ot 1 (vp_updL of 0 (Int32.toInt64 (nI (ln + 1))))], [ob bc 8 [.ref tx, .ref (a 0), .ref (b 0), .ref hi, .ref sl]], [ob tx 7 [.ref cod, .int (nI (ln + 1)), .int p9, .int z1, .int z2, .int z3, .ref told]], [ia ty cod 60 (upd cd ln c9)]]) := hD
    exact end_i (bs' := (fun (_ : Unit) => [[la ty ot 1 (vp_updL of 0 (Int32.toInt64 (nI (ln + 1))))], [ob bc 8 [.ref tx, .ref (a 0), .ref (b 0), .ref hi, .ref sl]], [ob tx 7 [.ref cod, .int (nI (ln + 1)), .int p9, .int z1, .int z2, .int z3, .ref told]], [ia ty cod 60 (upd cd ln c9)]])) () hx hb hr hlocks hP hD hS (by first | rfl | decide | simp []) (Nat.le_of_ble_eq_true rfl) (Nat.le_of_ble_eq_true rfl) dL_append_19
set_option maxHeartbeats 4000000 in
set_option maxRecDepth 100000 in
theorem c_L_append_n0 (l : Launch) (D : va_G) (ty : Nat → ClassId) (c9 : Int32) (bc tx hi sl : Nat) (b : Nat → Nat) (a : Nat → Nat) (cod told ln : Nat) (cd : Nat → Int32) (p9 z1 z2 z3 : Int32) (ot : Nat) (of : Nat → Int64) (hst : l.stackTraces = false) (hl6 : ln ≤ 60) (hc0 : ¬ (inR c9 0 255)) : CTi l yL_append wsL_append ({ frames := 8, cells := 2, slots := 12, locals := 125 }) D ty [.ref bc, .int c9, .ref ot] [[la ty ot 1 of], [ob bc 8 [.ref tx, .ref (a 0), .ref (b 0), .ref hi, .ref sl]], [ob tx 7 [.ref cod, .int (nI ln), .int p9, .int z1, .int z2, .int z3, .ref told]], [ia ty cod 60 cd]] (fun (RET : Int32) (_ : Unit) => RET = 1) (fun (_ : Unit) => [[la ty ot 1 of], [ob bc 8 [.ref tx, .ref (a 0), .ref (b 0), .ref hi, .ref sl]], [ob tx 7 [.ref cod, .int (nI ln), .int p9, .int z1, .int z2, .int z3, .ref told]], [ia ty cod 60 cd]]) := by
  refine CTi_ofH cL_append 4 (some .int) [(0, 9, 12, 13), (0, 9, 15, 15)] (by decide) rfl (Nat.le_of_ble_eq_true rfl) ?_
  intro p e s m args below meth c A hx hb hr hml hown hlocks hin hts hA hX hK hP hD ht0 ls hl
  have hown : s.vm.findClass RL = some m.cls := hown
  have hS : va_S A s.heap s.heap [] := va_S.rf
  have hl : lv_has ls 4 [(0, .ref bc), (1, .int c9), (2, .ref ot)] := hl
  refine lv_aload_n hx hb dL_append_0 rfl (lv_at hl 2 rfl) ?_
  refine lv_iconst (v := 0) hx hb dL_append_1 (by decide) ?_
  refine lv_aload_n hx hb dL_append_2 rfl (lv_at hl 0 rfl) ?_
  refine lv_iload_n hx hb dL_append_3 rfl (lv_at hl 1 rfl) ?_
  refine cVxi (As := [.int c9]) (rest := [.int 0, .ref ot]) ⟨hx, hb, hml, hown, hts⟩ (c_X9_append l D ty c9 bc tx hi sl b a cod told ln cd p9 z1 z2 z3 hst hl6) (cwV 1 hts gL_append_X9_append rfl rfl rfl (by decide +kernel) ⟨Nat.le_of_ble_eq_true rfl, Nat.le_of_ble_eq_true rfl⟩) hK hX hP hD hS hA (pk (bs := [[la ty ot 1 of], [ob bc 8 [.ref tx, .ref (a 0), .ref (b 0), .ref hi, .ref sl]], [ob tx 7 [.ref cod, .int (nI ln), .int p9, .int z1, .int z2, .int z3, .ref told]], [ia ty cod 60 cd]]) (bsc := [[ob bc 8 [.ref tx, .ref (a 0), .ref (b 0), .ref hi, .ref sl]], [ob tx 7 [.ref cod, .int (nI ln), .int p9, .int z1, .int z2, .int z3, .ref told]], [ia ty cod 60 cd]]) (bsr := [[la ty ot 1 of]]) [1, 2, 3] [0] 4 rfl (by decide +kernel) rfl rfl) (ci := 8) rfl 0 rfl rfl hl.1 rfl (Nat.le_of_ble_eq_true rfl) dL_append_4 ⟨Nat.le_of_ble_eq_true rfl, Nat.le_of_ble_eq_true rfl⟩ (fun E hE ce q9 H locs hP hD hS hce hcv hcl => ?_) (fun r9 u9 h9 H locs hP hD hS => ?_)
  · skip
    rcases hE with ⟨hEE, h0⟩ | ⟨hEE, k0, h1⟩
    · skip
      subst hEE
      have hP : va_P D vwCl (fl [[la ty ot 1 of], [ob bc 8 [.ref tx, .ref (a 0), .ref (b 0), .ref hi, .ref sl]], [ob tx 7 [.ref cod, .int (nI ln), .int p9, .int z1, .int z2, .int z3, .ref told]], [ia ty cod 60 cd]]) H := P_perm (po (bs := [[ob bc 8 [.ref tx, .ref (a 0), .ref (b 0), .ref hi, .ref sl]], [ob tx 7 [.ref cod, .int (nI ln), .int p9, .int z1, .int z2, .int z3, .ref told]], [ia ty cod 60 cd], [la ty ot 1 of]]) [3, 0, 1, 2] 4 rfl (by decide +kernel) rfl) hP
      have hD : va_D A (fl [[la ty ot 1 of], [ob bc 8 [.ref tx, .ref (a 0), .ref (b 0), .ref hi, .ref sl]], [ob tx 7 [.ref cod, .int (nI ln), .int p9, .int z1, .int z2, .int z3, .ref told]], [ia ty cod 60 cd]]) := D_perm (po (bs := [[ob bc 8 [.ref tx, .ref (a 0), .ref (b 0), .ref hi, .ref sl]], [ob tx 7 [.ref cod, .int (nI ln), .int p9, .int z1, .int z2, .int z3, .ref told]], [ia ty cod 60 cd], [la ty ot 1 of]]) [3, 0, 1, 2] 4 rfl (by decide +kernel) rfl) hD
      refine vx_catch (own := RL) (name := EIA) (E := EIA) hown [] ⟨0, 9, 12, 13⟩ [⟨0, 9, 15, 15⟩] (ht0.trans rfl) (fun z hz => by cases hz) (by decide) (by decide) (hts (Cond.classLink RL 13 "java/lang/IllegalArgumentException") (List.mem_of_getElem? (i := 1) rfl)) (va_Nw.use rfl hX.1.2.2.1.1) hce hcv hcl ?_
      refine lv_astore_n (lv' := [(3, .ref q9), (0, .ref bc), (1, .int c9), (2, .ref ot)]) hx hb dL_append_12 rfl hl (by decide) rfl (fun ls hl => ?_)
      refine lv_iconst (v := 1) hx hb dL_append_13 (by decide) ?_
      have hP : va_P D vwCl (fl [[la ty ot 1 of], [ob bc 8 [.ref tx, .ref (a 0), .ref (b 0), .ref hi, .ref sl]], [ob tx 7 [.ref cod, .int (nI ln), .int p9, .int z1, .int z2, .int z3, .ref told]], [ia ty cod 60 cd]]) H := hP
      have hD : va_D A (fl [[la ty ot 1 of], [ob bc 8 [.ref tx, .ref (a 0), .ref (b 0), .ref hi, .ref sl]], [ob tx 7 [.ref cod, .int (nI ln), .int p9, .int z1, .int z2, .int z3, .ref told]], [ia ty cod 60 cd]]) := hD
      exact end_i (bs' := (fun (_ : Unit) => [[la ty ot 1 of], [ob bc 8 [.ref tx, .ref (a 0), .ref (b 0), .ref hi, .ref sl]], [ob tx 7 [.ref cod, .int (nI ln), .int p9, .int z1, .int z2, .int z3, .ref told]], [ia ty cod 60 cd]])) () hx hb hr hlocks hP hD hS (by first | rfl | decide | simp []) (Nat.le_of_ble_eq_true rfl) (Nat.le_of_ble_eq_true rfl) dL_append_14
    · skip
      exact absurd k0 hc0
  · exact absurd h9.2.1 hc0
set_option maxHeartbeats 4000000 in
set_option maxRecDepth 100000 in
theorem c_L_append_n1 (l : Launch) (D : va_G) (ty : Nat → ClassId) (c9 : Int32) (bc tx hi sl : Nat) (b : Nat → Nat) (a : Nat → Nat) (cod told ln : Nat) (cd : Nat → Int32) (p9 z1 z2 z3 : Int32) (ot : Nat) (of : Nat → Int64) (hst : l.stackTraces = false) (hl6 : ln ≤ 60) (hc0 : inR c9 0 255) (hc1 : ¬ (ln < 60)) : CTi l yL_append wsL_append ({ frames := 8, cells := 2, slots := 12, locals := 125 }) D ty [.ref bc, .int c9, .ref ot] [[la ty ot 1 of], [ob bc 8 [.ref tx, .ref (a 0), .ref (b 0), .ref hi, .ref sl]], [ob tx 7 [.ref cod, .int (nI ln), .int p9, .int z1, .int z2, .int z3, .ref told]], [ia ty cod 60 cd]] (fun (RET : Int32) (_ : Unit) => RET = 2) (fun (_ : Unit) => [[la ty ot 1 of], [ob bc 8 [.ref tx, .ref (a 0), .ref (b 0), .ref hi, .ref sl]], [ob tx 7 [.ref cod, .int (nI ln), .int p9, .int z1, .int z2, .int z3, .ref told]], [ia ty cod 60 cd]]) := by
  refine CTi_ofH cL_append 4 (some .int) [(0, 9, 12, 13), (0, 9, 15, 15)] (by decide) rfl (Nat.le_of_ble_eq_true rfl) ?_
  intro p e s m args below meth c A hx hb hr hml hown hlocks hin hts hA hX hK hP hD ht0 ls hl
  have hown : s.vm.findClass RL = some m.cls := hown
  have hS : va_S A s.heap s.heap [] := va_S.rf
  have hl : lv_has ls 4 [(0, .ref bc), (1, .int c9), (2, .ref ot)] := hl
  refine lv_aload_n hx hb dL_append_0 rfl (lv_at hl 2 rfl) ?_
  refine lv_iconst (v := 0) hx hb dL_append_1 (by decide) ?_
  refine lv_aload_n hx hb dL_append_2 rfl (lv_at hl 0 rfl) ?_
  refine lv_iload_n hx hb dL_append_3 rfl (lv_at hl 1 rfl) ?_
  refine cVxi (As := [.int c9]) (rest := [.int 0, .ref ot]) ⟨hx, hb, hml, hown, hts⟩ (c_X9_append l D ty c9 bc tx hi sl b a cod told ln cd p9 z1 z2 z3 hst hl6) (cwV 1 hts gL_append_X9_append rfl rfl rfl (by decide +kernel) ⟨Nat.le_of_ble_eq_true rfl, Nat.le_of_ble_eq_true rfl⟩) hK hX hP hD hS hA (pk (bs := [[la ty ot 1 of], [ob bc 8 [.ref tx, .ref (a 0), .ref (b 0), .ref hi, .ref sl]], [ob tx 7 [.ref cod, .int (nI ln), .int p9, .int z1, .int z2, .int z3, .ref told]], [ia ty cod 60 cd]]) (bsc := [[ob bc 8 [.ref tx, .ref (a 0), .ref (b 0), .ref hi, .ref sl]], [ob tx 7 [.ref cod, .int (nI ln), .int p9, .int z1, .int z2, .int z3, .ref told]], [ia ty cod 60 cd]]) (bsr := [[la ty ot 1 of]]) [1, 2, 3] [0] 4 rfl (by decide +kernel) rfl rfl) (ci := 8) rfl 0 rfl rfl hl.1 rfl (Nat.le_of_ble_eq_true rfl) dL_append_4 ⟨Nat.le_of_ble_eq_true rfl, Nat.le_of_ble_eq_true rfl⟩ (fun E hE ce q9 H locs hP hD hS hce hcv hcl => ?_) (fun r9 u9 h9 H locs hP hD hS => ?_)
  · skip
    rcases hE with ⟨hEE, h0⟩ | ⟨hEE, k0, h1⟩
    · skip
      exact absurd hc0 h0
    · skip
      subst hEE
      have hP : va_P D vwCl (fl [[la ty ot 1 of], [ob bc 8 [.ref tx, .ref (a 0), .ref (b 0), .ref hi, .ref sl]], [ob tx 7 [.ref cod, .int (nI ln), .int p9, .int z1, .int z2, .int z3, .ref told]], [ia ty cod 60 cd]]) H := P_perm (po (bs := [[ob bc 8 [.ref tx, .ref (a 0), .ref (b 0), .ref hi, .ref sl]], [ob tx 7 [.ref cod, .int (nI ln), .int p9, .int z1, .int z2, .int z3, .ref told]], [ia ty cod 60 cd], [la ty ot 1 of]]) [3, 0, 1, 2] 4 rfl (by decide +kernel) rfl) hP
      have hD : va_D A (fl [[la ty ot 1 of], [ob bc 8 [.ref tx, .ref (a 0), .ref (b 0), .ref hi, .ref sl]], [ob tx 7 [.ref cod, .int (nI ln), .int p9, .int z1, .int z2, .int z3, .ref told]], [ia ty cod 60 cd]]) := D_perm (po (bs := [[ob bc 8 [.ref tx, .ref (a 0), .ref (b 0), .ref hi, .ref sl]], [ob tx 7 [.ref cod, .int (nI ln), .int p9, .int z1, .int z2, .int z3, .ref told]], [ia ty cod 60 cd], [la ty ot 1 of]]) [3, 0, 1, 2] 4 rfl (by decide +kernel) rfl) hD
      refine vx_catch (own := RL) (name := EIS) (E := EIS) hown [⟨0, 9, 12, 13⟩] ⟨0, 9, 15, 15⟩ [] (ht0.trans rfl) (List.forall_mem_cons.mpr ⟨Or.inr ⟨by decide, _, (hts (Cond.classLink RL 13 "java/lang/IllegalArgumentException") (List.mem_of_getElem? (i := 1) rfl)), hX.1.2.2.2.1.1.2.2.1⟩, (fun z hz => absurd hz List.not_mem_nil)⟩) (by decide) (by decide) (hts (Cond.classLink RL 15 "java/lang/IllegalStateException") (List.mem_of_getElem? (i := 2) rfl)) (va_Nw.use rfl hX.1.2.2.1.2.1) hce hcv hcl ?_
      refine lv_astore_n (lv' := [(3, .ref q9), (0, .ref bc), (1, .int c9), (2, .ref ot)]) hx hb dL_append_15 rfl hl (by decide) rfl (fun ls hl => ?_)
      refine lv_iconst (v := 2) hx hb dL_append_16 (by decide) ?_
      have hP : va_P D vwCl (fl [[la ty ot 1 of], [ob bc 8 [.ref tx, .ref (a 0), .ref (b 0), .ref hi, .ref sl]], [ob tx 7 [.ref cod, .int (nI ln), .int p9, .int z1, .int z2, .int z3, .ref told]], [ia ty cod 60 cd]]) H := hP
      have hD : va_D A (fl [[la ty ot 1 of], [ob bc 8 [.ref tx, .ref (a 0), .ref (b 0), .ref hi, .ref sl]], [ob tx 7 [.ref cod, .int (nI ln), .int p9, .int z1, .int z2, .int z3, .ref told]], [ia ty cod 60 cd]]) := hD
      exact end_i (bs' := (fun (_ : Unit) => [[la ty ot 1 of], [ob bc 8 [.ref tx, .ref (a 0), .ref (b 0), .ref hi, .ref sl]], [ob tx 7 [.ref cod, .int (nI ln), .int p9, .int z1, .int z2, .int z3, .ref told]], [ia ty cod 60 cd]])) () hx hb hr hlocks hP hD hS (by first | rfl | decide | simp []) (Nat.le_of_ble_eq_true rfl) (Nat.le_of_ble_eq_true rfl) dL_append_17
  · exact absurd h9.2.2 hc1
set_option maxHeartbeats 4000000 in
set_option maxRecDepth 100000 in
theorem c_L_about (l : Launch) (D : va_G) (ty : Nat → ClassId) (w9 : Int32) (bc tx hi sl : Nat) (b : Nat → Nat) (a : Nat → Nat) (r : Nat → Int32) (x y : Int64) (g : Nat → Nat → Int32) (ot : Nat) (of : Nat → Int64) (hst : l.stackTraces = false) (hc0 : inR w9 0 14) : CTi l yL_about wsL_about ({ frames := 8, cells := 1, slots := 6, locals := 125 }) D ty [.ref bc, .int w9, .ref ot] [[la ty ot 1 of], [ob bc 8 [.ref tx, .ref (a 0), .ref (b 0), .ref hi, .ref sl]], (stW ty a r x y g)] (fun (RET : Int32) (_ : Unit) => RET = 0) (fun (_ : Unit) => [[la ty ot 1 (vp_updL of 0 (Int32.toInt64 (ptell r w9)))], [ob bc 8 [.ref tx, .ref (a 0), .ref (b 0), .ref hi, .ref sl]], (stW ty a r x y g)]) := by
  refine CTi_ofH cL_about 4 (some .int) [(0, 9, 12, 13)] (by decide) rfl (Nat.le_of_ble_eq_true rfl) ?_
  intro p e s m args below meth c A hx hb hr hml hown hlocks hin hts hA hX hK hP hD ht0 ls hl
  have hown : s.vm.findClass RL = some m.cls := hown
  have hS : va_S A s.heap s.heap [] := va_S.rf
  have hl : lv_has ls 4 [(0, .ref bc), (1, .int w9), (2, .ref ot)] := hl
  refine lv_aload_n hx hb dL_about_0 rfl (lv_at hl 2 rfl) ?_
  refine lv_iconst (v := 0) hx hb dL_about_1 (by decide) ?_
  refine lv_aload_n hx hb dL_about_2 rfl (lv_at hl 0 rfl) ?_
  refine lv_iload_n hx hb dL_about_3 rfl (lv_at hl 1 rfl) ?_
  refine cVxi (As := [.int w9]) (rest := [.int 0, .ref ot]) ⟨hx, hb, hml, hown, hts⟩ (c_X9_about l D ty w9 bc tx hi sl b a r x y g hst) (cwV 1 hts gL_about_X9_about rfl rfl rfl (by decide +kernel) ⟨Nat.le_of_ble_eq_true rfl, Nat.le_of_ble_eq_true rfl⟩) hK hX hP hD hS hA (pk (bs := [[la ty ot 1 of], [ob bc 8 [.ref tx, .ref (a 0), .ref (b 0), .ref hi, .ref sl]], (stW ty a r x y g)]) (bsc := [[ob bc 8 [.ref tx, .ref (a 0), .ref (b 0), .ref hi, .ref sl]], (stW ty a r x y g)]) (bsr := [[la ty ot 1 of]]) [1, 2] [0] 3 rfl (by decide +kernel) rfl rfl) (ci := 8) rfl 0 rfl rfl hl.1 rfl (Nat.le_of_ble_eq_true rfl) dL_about_4 ⟨Nat.le_of_ble_eq_true rfl, Nat.le_of_ble_eq_true rfl⟩ (fun E hE ce q9 H locs hP hD hS hce hcv hcl => ?_) (fun r9 u9 h9 H locs hP hD hS => ?_)
  · skip
    obtain ⟨hEE, h0⟩ := hE
    exact absurd hc0 h0
  · skip
    have hP : va_P D vwCl (fl [[la ty ot 1 of], [ob bc 8 [.ref tx, .ref (a 0), .ref (b 0), .ref hi, .ref sl]], (stW ty a r x y g)]) H := P_perm (po (bs := [[ob bc 8 [.ref tx, .ref (a 0), .ref (b 0), .ref hi, .ref sl]], (stW ty a r x y g), [la ty ot 1 of]]) [2, 0, 1] 3 rfl (by decide +kernel) rfl) hP
    have hD : va_D A (fl [[la ty ot 1 of], [ob bc 8 [.ref tx, .ref (a 0), .ref (b 0), .ref hi, .ref sl]], (stW ty a r x y g)]) := D_perm (po (bs := [[ob bc 8 [.ref tx, .ref (a 0), .ref (b 0), .ref hi, .ref sl]], (stW ty a r x y g), [la ty ot 1 of]]) [2, 0, 1] 3 rfl (by decide +kernel) rfl) hD
    have h8 : r9 = (ptell r w9) := h9.1
    subst h8
    refine lv_i2l (v := (Int32.toInt64 (ptell r w9))) hx hb dL_about_7 rfl ?_
    refine k_last hx hb hK hP hD hS 0 rfl 0 rfl (by decide) (Nat.le_of_ble_eq_true rfl) dL_about_8 (fun H locs hP hD hS => ?_)
    have hP : va_P D vwCl (fl [[la ty ot 1 (vp_updL of 0 (Int32.toInt64 (ptell r w9)))], [ob bc 8 [.ref tx, .ref (a 0), .ref (b 0), .ref hi, .ref sl]], (stW ty a r x y g)]) H := hP
    have hD : va_D A (fl [[la ty ot 1 (vp_updL of 0 (Int32.toInt64 (ptell r w9)))], [ob bc 8 [.ref tx, .ref (a 0), .ref (b 0), .ref hi, .ref sl]], (stW ty a r x y g)]) := hD
    refine lv_goto (tgt := 15) hx hb dL_about_9 (by decide) ?_
    refine lv_iconst (v := 0) hx hb dL_about_15 (by decide) ?_
    have hP : va_P D vwCl (fl [[la ty ot 1 (vp_updL of 0 (Int32.toInt64 (ptell r w9)))], [ob bc 8 [.ref tx, .ref (a 0), .ref (b 0), .ref hi, .ref sl]], (stW ty a r x y g)]) H := hP
    have hD : va_D A (fl [[la ty ot 1 (vp_updL of 0 (Int32.toInt64 (ptell r w9)))], [ob bc 8 [.ref tx, .ref (a 0), .ref (b 0), .ref hi, .ref sl]], (stW ty a r x y g)]) := hD
    exact end_i (bs' := (fun (_ : Unit) => [[la ty ot 1 (vp_updL of 0 (Int32.toInt64 (ptell r w9)))], [ob bc 8 [.ref tx, .ref (a 0), .ref (b 0), .ref hi, .ref sl]], (stW ty a r x y g)])) () hx hb hr hlocks hP hD hS (by first | rfl | decide | simp []) (Nat.le_of_ble_eq_true rfl) (Nat.le_of_ble_eq_true rfl) dL_about_16
set_option maxHeartbeats 4000000 in
set_option maxRecDepth 100000 in
theorem c_L_about_n0 (l : Launch) (D : va_G) (ty : Nat → ClassId) (w9 : Int32) (bc tx hi sl : Nat) (b : Nat → Nat) (a : Nat → Nat) (r : Nat → Int32) (x y : Int64) (g : Nat → Nat → Int32) (ot : Nat) (of : Nat → Int64) (hst : l.stackTraces = false) (hc0 : ¬ (inR w9 0 14)) : CTi l yL_about wsL_about ({ frames := 8, cells := 1, slots := 6, locals := 125 }) D ty [.ref bc, .int w9, .ref ot] [[la ty ot 1 of], [ob bc 8 [.ref tx, .ref (a 0), .ref (b 0), .ref hi, .ref sl]], (stW ty a r x y g)] (fun (RET : Int32) (_ : Unit) => RET = 1) (fun (_ : Unit) => [[la ty ot 1 of], [ob bc 8 [.ref tx, .ref (a 0), .ref (b 0), .ref hi, .ref sl]], (stW ty a r x y g)]) := by
  refine CTi_ofH cL_about 4 (some .int) [(0, 9, 12, 13)] (by decide) rfl (Nat.le_of_ble_eq_true rfl) ?_
  intro p e s m args below meth c A hx hb hr hml hown hlocks hin hts hA hX hK hP hD ht0 ls hl
  have hown : s.vm.findClass RL = some m.cls := hown
  have hS : va_S A s.heap s.heap [] := va_S.rf
  have hl : lv_has ls 4 [(0, .ref bc), (1, .int w9), (2, .ref ot)] := hl
  refine lv_aload_n hx hb dL_about_0 rfl (lv_at hl 2 rfl) ?_
  refine lv_iconst (v := 0) hx hb dL_about_1 (by decide) ?_
  refine lv_aload_n hx hb dL_about_2 rfl (lv_at hl 0 rfl) ?_
  refine lv_iload_n hx hb dL_about_3 rfl (lv_at hl 1 rfl) ?_
  refine cVxi (As := [.int w9]) (rest := [.int 0, .ref ot]) ⟨hx, hb, hml, hown, hts⟩ (c_X9_about l D ty w9 bc tx hi sl b a r x y g hst) (cwV 1 hts gL_about_X9_about rfl rfl rfl (by decide +kernel) ⟨Nat.le_of_ble_eq_true rfl, Nat.le_of_ble_eq_true rfl⟩) hK hX hP hD hS hA (pk (bs := [[la ty ot 1 of], [ob bc 8 [.ref tx, .ref (a 0), .ref (b 0), .ref hi, .ref sl]], (stW ty a r x y g)]) (bsc := [[ob bc 8 [.ref tx, .ref (a 0), .ref (b 0), .ref hi, .ref sl]], (stW ty a r x y g)]) (bsr := [[la ty ot 1 of]]) [1, 2] [0] 3 rfl (by decide +kernel) rfl rfl) (ci := 8) rfl 0 rfl rfl hl.1 rfl (Nat.le_of_ble_eq_true rfl) dL_about_4 ⟨Nat.le_of_ble_eq_true rfl, Nat.le_of_ble_eq_true rfl⟩ (fun E hE ce q9 H locs hP hD hS hce hcv hcl => ?_) (fun r9 u9 h9 H locs hP hD hS => ?_)
  · skip
    obtain ⟨hEE, h0⟩ := hE
    subst hEE
    have hP : va_P D vwCl (fl [[la ty ot 1 of], [ob bc 8 [.ref tx, .ref (a 0), .ref (b 0), .ref hi, .ref sl]], (stW ty a r x y g)]) H := P_perm (po (bs := [[ob bc 8 [.ref tx, .ref (a 0), .ref (b 0), .ref hi, .ref sl]], (stW ty a r x y g), [la ty ot 1 of]]) [2, 0, 1] 3 rfl (by decide +kernel) rfl) hP
    have hD : va_D A (fl [[la ty ot 1 of], [ob bc 8 [.ref tx, .ref (a 0), .ref (b 0), .ref hi, .ref sl]], (stW ty a r x y g)]) := D_perm (po (bs := [[ob bc 8 [.ref tx, .ref (a 0), .ref (b 0), .ref hi, .ref sl]], (stW ty a r x y g), [la ty ot 1 of]]) [2, 0, 1] 3 rfl (by decide +kernel) rfl) hD
    refine vx_catch (own := RL) (name := EIA) (E := EIA) hown [] ⟨0, 9, 12, 13⟩ [] (ht0.trans rfl) (fun z hz => by cases hz) (by decide) (by decide) (hts (Cond.classLink RL 13 "java/lang/IllegalArgumentException") (List.mem_of_getElem? (i := 1) rfl)) (va_Nw.use rfl hX.1.2.2.1.1) hce hcv hcl ?_
    refine lv_astore_n (lv' := [(3, .ref q9), (0, .ref bc), (1, .int w9), (2, .ref ot)]) hx hb dL_about_12 rfl hl (by decide) rfl (fun ls hl => ?_)
    refine lv_iconst (v := 1) hx hb dL_about_13 (by decide) ?_
    have hP : va_P D vwCl (fl [[la ty ot 1 of], [ob bc 8 [.ref tx, .ref (a 0), .ref (b 0), .ref hi, .ref sl]], (stW ty a r x y g)]) H := hP
    have hD : va_D A (fl [[la ty ot 1 of], [ob bc 8 [.ref tx, .ref (a 0), .ref (b 0), .ref hi, .ref sl]], (stW ty a r x y g)]) := hD
    exact end_i (bs' := (fun (_ : Unit) => [[la ty ot 1 of], [ob bc 8 [.ref tx, .ref (a 0), .ref (b 0), .ref hi, .ref sl]], (stW ty a r x y g)])) () hx hb hr hlocks hP hD hS (by first | rfl | decide | simp []) (Nat.le_of_ble_eq_true rfl) (Nat.le_of_ble_eq_true rfl) dL_about_14
  · exact absurd h9.2 hc0
set_option maxHeartbeats 4000000 in
set_option maxRecDepth 100000 in
theorem c_L_account (l : Launch) (D : va_G) (ty : Nat → ClassId) (w9 : Int32) (bc tx hi sl : Nat) (b : Nat → Nat) (a : Nat → Nat) (r : Nat → Int32) (x y : Int64) (g : Nat → Nat → Int32) (ot : Nat) (of : Nat → Int64) (hst : l.stackTraces = false) (hc0 : inR w9 0 5) : CTi l yL_account wsL_account ({ frames := 8, cells := 1, slots := 6, locals := 125 }) D ty [.ref bc, .int w9, .ref ot] [[la ty ot 1 of], [ob bc 8 [.ref tx, .ref (a 0), .ref (b 0), .ref hi, .ref sl]], (stW ty a r x y g)] (fun (RET : Int32) (_ : Unit) => RET = 0) (fun (_ : Unit) => [[la ty ot 1 (vp_updL of 0 (if w9 < 4 then Int32.toInt64 (r (12 + w9.toNatClampNeg)) else if w9 = 4 then x else y))], [ob bc 8 [.ref tx, .ref (a 0), .ref (b 0), .ref hi, .ref sl]], (stW ty a r x y g)]) := by
  refine CTi_ofH cL_account 4 (some .int) [(0, 8, 11, 13)] (by decide) rfl (Nat.le_of_ble_eq_true rfl) ?_
  intro p e s m args below meth c A hx hb hr hml hown hlocks hin hts hA hX hK hP hD ht0 ls hl
  have hown : s.vm.findClass RL = some m.cls := hown
  have hS : va_S A s.heap s.heap [] := va_S.rf
  have hl : lv_has ls 4 [(0, .ref bc), (1, .int w9), (2, .ref ot)] := hl
  refine lv_aload_n hx hb dL_account_0 rfl (lv_at hl 2 rfl) ?_
  refine lv_iconst (v := 0) hx hb dL_account_1 (by decide) ?_
  refine lv_aload_n hx hb dL_account_2 rfl (lv_at hl 0 rfl) ?_
  refine lv_iload_n hx hb dL_account_3 rfl (lv_at hl 1 rfl) ?_
  refine cVxl (As := [.int w9]) (rest := [.int 0, .ref ot]) ⟨hx, hb, hml, hown, hts⟩ (c_X9_account l D ty w9 bc tx hi sl b a r x y g hst) (cwV 1 hts gL_account_X9_account rfl rfl rfl (by decide +kernel) ⟨Nat.le_of_ble_eq_true rfl, Nat.le_of_ble_eq_true rfl⟩) hK hX hP hD hS hA (pk (bs := [[la ty ot 1 of], [ob bc 8 [.ref tx, .ref (a 0), .ref (b 0), .ref hi, .ref sl]], (stW ty a r x y g)]) (bsc := [[ob bc 8 [.ref tx, .ref (a 0), .ref (b 0), .ref hi, .ref sl]], (stW ty a r x y g)]) (bsr := [[la ty ot 1 of]]) [1, 2] [0] 3 rfl (by decide +kernel) rfl rfl) (ci := 8) rfl 0 rfl rfl hl.1 rfl (Nat.le_of_ble_eq_true rfl) dL_account_4 ⟨Nat.le_of_ble_eq_true rfl, Nat.le_of_ble_eq_true rfl⟩ (fun E hE ce q9 H locs hP hD hS hce hcv hcl => ?_) (fun r9 u9 h9 H locs hP hD hS => ?_)
  · skip
    obtain ⟨hEE, h0⟩ := hE
    exact absurd hc0 h0
  · skip
    have hP : va_P D vwCl (fl [[la ty ot 1 of], [ob bc 8 [.ref tx, .ref (a 0), .ref (b 0), .ref hi, .ref sl]], (stW ty a r x y g)]) H := P_perm (po (bs := [[ob bc 8 [.ref tx, .ref (a 0), .ref (b 0), .ref hi, .ref sl]], (stW ty a r x y g), [la ty ot 1 of]]) [2, 0, 1] 3 rfl (by decide +kernel) rfl) hP
    have hD : va_D A (fl [[la ty ot 1 of], [ob bc 8 [.ref tx, .ref (a 0), .ref (b 0), .ref hi, .ref sl]], (stW ty a r x y g)]) := D_perm (po (bs := [[ob bc 8 [.ref tx, .ref (a 0), .ref (b 0), .ref hi, .ref sl]], (stW ty a r x y g), [la ty ot 1 of]]) [2, 0, 1] 3 rfl (by decide +kernel) rfl) hD
    have h8 : r9 = (if w9 < 4 then Int32.toInt64 (r (12 + w9.toNatClampNeg)) else if w9 = 4 then x else y) := h9.1
    subst h8
    refine k_last hx hb hK hP hD hS 0 rfl 0 rfl (by decide) (Nat.le_of_ble_eq_true rfl) dL_account_7 (fun H locs hP hD hS => ?_)
    have hP : va_P D vwCl (fl [[la ty ot 1 (vp_updL of 0 (if w9 < 4 then Int32.toInt64 (r (12 + w9.toNatClampNeg)) else if w9 = 4 then x else y))], [ob bc 8 [.ref tx, .ref (a 0), .ref (b 0), .ref hi, .ref sl]], (stW ty a r x y g)]) H := hP
    have hD : va_D A (fl [[la ty ot 1 (vp_updL of 0 (if w9 < 4 then Int32.toInt64 (r (12 + w9.toNatClampNeg)) else if w9 = 4 then x else y))], [ob bc 8 [.ref tx, .ref (a 0), .ref (b 0), .ref hi, .ref sl]], (stW ty a r x y g)]) := hD
    refine lv_goto (tgt := 14) hx hb dL_account_8 (by decide) ?_
    refine lv_iconst (v := 0) hx hb dL_account_14 (by decide) ?_
    have hP : va_P D vwCl (fl [[la ty ot 1 (vp_updL of 0 (if w9 < 4 then Int32.toInt64 (r (12 + w9.toNatClampNeg)) else if w9 = 4 then x else y))], [ob bc 8 [.ref tx, .ref (a 0), .ref (b 0), .ref hi, .ref sl]], (stW ty a r x y g)]) H := hP
    have hD : va_D A (fl [[la ty ot 1 (vp_updL of 0 (if w9 < 4 then Int32.toInt64 (r (12 + w9.toNatClampNeg)) else if w9 = 4 then x else y))], [ob bc 8 [.ref tx, .ref (a 0), .ref (b 0), .ref hi, .ref sl]], (stW ty a r x y g)]) := hD
    exact end_i (bs' := (fun (_ : Unit) => [[la ty ot 1 (vp_updL of 0 (if w9 < 4 then Int32.toInt64 (r (12 + w9.toNatClampNeg)) else if w9 = 4 then x else y))], [ob bc 8 [.ref tx, .ref (a 0), .ref (b 0), .ref hi, .ref sl]], (stW ty a r x y g)])) () hx hb hr hlocks hP hD hS (by first | rfl | decide | simp []) (Nat.le_of_ble_eq_true rfl) (Nat.le_of_ble_eq_true rfl) dL_account_15
set_option maxHeartbeats 4000000 in
set_option maxRecDepth 100000 in
theorem c_L_account_n0 (l : Launch) (D : va_G) (ty : Nat → ClassId) (w9 : Int32) (bc tx hi sl : Nat) (b : Nat → Nat) (a : Nat → Nat) (r : Nat → Int32) (x y : Int64) (g : Nat → Nat → Int32) (ot : Nat) (of : Nat → Int64) (hst : l.stackTraces = false) (hc0 : ¬ (inR w9 0 5)) : CTi l yL_account wsL_account ({ frames := 8, cells := 1, slots := 6, locals := 125 }) D ty [.ref bc, .int w9, .ref ot] [[la ty ot 1 of], [ob bc 8 [.ref tx, .ref (a 0), .ref (b 0), .ref hi, .ref sl]], (stW ty a r x y g)] (fun (RET : Int32) (_ : Unit) => RET = 1) (fun (_ : Unit) => [[la ty ot 1 of], [ob bc 8 [.ref tx, .ref (a 0), .ref (b 0), .ref hi, .ref sl]], (stW ty a r x y g)]) := by
  refine CTi_ofH cL_account 4 (some .int) [(0, 8, 11, 13)] (by decide) rfl (Nat.le_of_ble_eq_true rfl) ?_
  intro p e s m args below meth c A hx hb hr hml hown hlocks hin hts hA hX hK hP hD ht0 ls hl
  have hown : s.vm.findClass RL = some m.cls := hown
  have hS : va_S A s.heap s.heap [] := va_S.rf
  have hl : lv_has ls 4 [(0, .ref bc), (1, .int w9), (2, .ref ot)] := hl
  refine lv_aload_n hx hb dL_account_0 rfl (lv_at hl 2 rfl) ?_
  refine lv_iconst (v := 0) hx hb dL_account_1 (by decide) ?_
  refine lv_aload_n hx hb dL_account_2 rfl (lv_at hl 0 rfl) ?_
  refine lv_iload_n hx hb dL_account_3 rfl (lv_at hl 1 rfl) ?_
  refine cVxl (As := [.int w9]) (rest := [.int 0, .ref ot]) ⟨hx, hb, hml, hown, hts⟩ (c_X9_account l D ty w9 bc tx hi sl b a r x y g hst) (cwV 1 hts gL_account_X9_account rfl rfl rfl (by decide +kernel) ⟨Nat.le_of_ble_eq_true rfl, Nat.le_of_ble_eq_true rfl⟩) hK hX hP hD hS hA (pk (bs := [[la ty ot 1 of], [ob bc 8 [.ref tx, .ref (a 0), .ref (b 0), .ref hi, .ref sl]], (stW ty a r x y g)]) (bsc := [[ob bc 8 [.ref tx, .ref (a 0), .ref (b 0), .ref hi, .ref sl]], (stW ty a r x y g)]) (bsr := [[la ty ot 1 of]]) [1, 2] [0] 3 rfl (by decide +kernel) rfl rfl) (ci := 8) rfl 0 rfl rfl hl.1 rfl (Nat.le_of_ble_eq_true rfl) dL_account_4 ⟨Nat.le_of_ble_eq_true rfl, Nat.le_of_ble_eq_true rfl⟩ (fun E hE ce q9 H locs hP hD hS hce hcv hcl => ?_) (fun r9 u9 h9 H locs hP hD hS => ?_)
  · skip
    obtain ⟨hEE, h0⟩ := hE
    subst hEE
    have hP : va_P D vwCl (fl [[la ty ot 1 of], [ob bc 8 [.ref tx, .ref (a 0), .ref (b 0), .ref hi, .ref sl]], (stW ty a r x y g)]) H := P_perm (po (bs := [[ob bc 8 [.ref tx, .ref (a 0), .ref (b 0), .ref hi, .ref sl]], (stW ty a r x y g), [la ty ot 1 of]]) [2, 0, 1] 3 rfl (by decide +kernel) rfl) hP
    have hD : va_D A (fl [[la ty ot 1 of], [ob bc 8 [.ref tx, .ref (a 0), .ref (b 0), .ref hi, .ref sl]], (stW ty a r x y g)]) := D_perm (po (bs := [[ob bc 8 [.ref tx, .ref (a 0), .ref (b 0), .ref hi, .ref sl]], (stW ty a r x y g), [la ty ot 1 of]]) [2, 0, 1] 3 rfl (by decide +kernel) rfl) hD
    refine vx_catch (own := RL) (name := EIA) (E := EIA) hown [] ⟨0, 8, 11, 13⟩ [] (ht0.trans rfl) (fun z hz => by cases hz) (by decide) (by decide) (hts (Cond.classLink RL 13 "java/lang/IllegalArgumentException") (List.mem_of_getElem? (i := 1) rfl)) (va_Nw.use rfl hX.1.2.2.1.1) hce hcv hcl ?_
    refine lv_astore_n (lv' := [(3, .ref q9), (0, .ref bc), (1, .int w9), (2, .ref ot)]) hx hb dL_account_11 rfl hl (by decide) rfl (fun ls hl => ?_)
    refine lv_iconst (v := 1) hx hb dL_account_12 (by decide) ?_
    have hP : va_P D vwCl (fl [[la ty ot 1 of], [ob bc 8 [.ref tx, .ref (a 0), .ref (b 0), .ref hi, .ref sl]], (stW ty a r x y g)]) H := hP
    have hD : va_D A (fl [[la ty ot 1 of], [ob bc 8 [.ref tx, .ref (a 0), .ref (b 0), .ref hi, .ref sl]], (stW ty a r x y g)]) := hD
    exact end_i (bs' := (fun (_ : Unit) => [[la ty ot 1 of], [ob bc 8 [.ref tx, .ref (a 0), .ref (b 0), .ref hi, .ref sl]], (stW ty a r x y g)])) () hx hb hr hlocks hP hD hS (by first | rfl | decide | simp []) (Nat.le_of_ble_eq_true rfl) (Nat.le_of_ble_eq_true rfl) dL_account_13
  · exact absurd h9.2 hc0
set_option maxHeartbeats 4000000 in
set_option maxRecDepth 100000 in
theorem c_L_register (l : Launch) (D : va_G) (ty : Nat → ClassId) (i9 : Int32) (bc tx hi sl : Nat) (b : Nat → Nat) (a : Nat → Nat) (r : Nat → Int32) (x y : Int64) (g : Nat → Nat → Int32) (ot : Nat) (of : Nat → Int64) (hst : l.stackTraces = false) (hc0 : inI i9 8) : CTi l yL_register wsL_register ({ frames := 8, cells := 1, slots := 6, locals := 124 }) D ty [.ref bc, .int i9, .ref ot] [[la ty ot 1 of], [ob bc 8 [.ref tx, .ref (a 0), .ref (b 0), .ref hi, .ref sl]], (stW ty a r x y g)] (fun (RET : Int32) (_ : Unit) => RET = 0) (fun (_ : Unit) => [[la ty ot 1 (vp_updL of 0 (Int32.toInt64 (r (16 + i9.toNatClampNeg))))], [ob bc 8 [.ref tx, .ref (a 0), .ref (b 0), .ref hi, .ref sl]], (stW ty a r x y g)]) := by
  refine CTi_ofH cL_register 4 (some .int) [(0, 9, 12, 31)] (by decide) rfl (Nat.le_of_ble_eq_true rfl) ?_
  intro p e s m args below meth c A hx hb hr hml hown hlocks hin hts hA hX hK hP hD ht0 ls hl
  have hown : s.vm.findClass RL = some m.cls := hown
  have hS : va_S A s.heap s.heap [] := va_S.rf
  have hl : lv_has ls 4 [(0, .ref bc), (1, .int i9), (2, .ref ot)] := hl
  refine lv_aload_n hx hb dL_register_0 rfl (lv_at hl 2 rfl) ?_
  refine lv_iconst (v := 0) hx hb dL_register_1 (by decide) ?_
  refine lv_aload_n hx hb dL_register_2 rfl (lv_at hl 0 rfl) ?_
  refine lv_iload_n hx hb dL_register_3 rfl (lv_at hl 1 rfl) ?_
  refine cVxi (As := [.int i9]) (rest := [.int 0, .ref ot]) ⟨hx, hb, hml, hown, hts⟩ (c_X9_register l D ty i9 bc tx hi sl b a r x y g hst) (cwV 1 hts gL_register_X9_register rfl rfl rfl (by decide +kernel) ⟨Nat.le_of_ble_eq_true rfl, Nat.le_of_ble_eq_true rfl⟩) hK hX hP hD hS hA (pk (bs := [[la ty ot 1 of], [ob bc 8 [.ref tx, .ref (a 0), .ref (b 0), .ref hi, .ref sl]], (stW ty a r x y g)]) (bsc := [[ob bc 8 [.ref tx, .ref (a 0), .ref (b 0), .ref hi, .ref sl]], (stW ty a r x y g)]) (bsr := [[la ty ot 1 of]]) [1, 2] [0] 3 rfl (by decide +kernel) rfl rfl) (ci := 8) rfl 0 rfl rfl hl.1 rfl (Nat.le_of_ble_eq_true rfl) dL_register_4 ⟨Nat.le_of_ble_eq_true rfl, Nat.le_of_ble_eq_true rfl⟩ (fun E hE ce q9 H locs hP hD hS hce hcv hcl => ?_) (fun r9 u9 h9 H locs hP hD hS => ?_)
  · skip
    obtain ⟨hEE, h0⟩ := hE
    exact absurd hc0 h0
  · skip
    have hP : va_P D vwCl (fl [[la ty ot 1 of], [ob bc 8 [.ref tx, .ref (a 0), .ref (b 0), .ref hi, .ref sl]], (stW ty a r x y g)]) H := P_perm (po (bs := [[ob bc 8 [.ref tx, .ref (a 0), .ref (b 0), .ref hi, .ref sl]], (stW ty a r x y g), [la ty ot 1 of]]) [2, 0, 1] 3 rfl (by decide +kernel) rfl) hP
    have hD : va_D A (fl [[la ty ot 1 of], [ob bc 8 [.ref tx, .ref (a 0), .ref (b 0), .ref hi, .ref sl]], (stW ty a r x y g)]) := D_perm (po (bs := [[ob bc 8 [.ref tx, .ref (a 0), .ref (b 0), .ref hi, .ref sl]], (stW ty a r x y g), [la ty ot 1 of]]) [2, 0, 1] 3 rfl (by decide +kernel) rfl) hD
    have h8 : r9 = (r (16 + i9.toNatClampNeg)) := h9.1
    subst h8
    refine lv_i2l (v := (Int32.toInt64 (r (16 + i9.toNatClampNeg)))) hx hb dL_register_7 rfl ?_
    refine k_last hx hb hK hP hD hS 0 rfl 0 rfl (by decide) (Nat.le_of_ble_eq_true rfl) dL_register_8 (fun H locs hP hD hS => ?_)
    have hP : va_P D vwCl (fl [[la ty ot 1 (vp_updL of 0 (Int32.toInt64 (r (16 + i9.toNatClampNeg))))], [ob bc 8 [.ref tx, .ref (a 0), .ref (b 0), .ref hi, .ref sl]], (stW ty a r x y g)]) H := hP
    have hD : va_D A (fl [[la ty ot 1 (vp_updL of 0 (Int32.toInt64 (r (16 + i9.toNatClampNeg))))], [ob bc 8 [.ref tx, .ref (a 0), .ref (b 0), .ref hi, .ref sl]], (stW ty a r x y g)]) := hD
    refine lv_goto (tgt := 15) hx hb dL_register_9 (by decide) ?_
    refine lv_iconst (v := 0) hx hb dL_register_15 (by decide) ?_
    have hP : va_P D vwCl (fl [[la ty ot 1 (vp_updL of 0 (Int32.toInt64 (r (16 + i9.toNatClampNeg))))], [ob bc 8 [.ref tx, .ref (a 0), .ref (b 0), .ref hi, .ref sl]], (stW ty a r x y g)]) H := hP
    have hD : va_D A (fl [[la ty ot 1 (vp_updL of 0 (Int32.toInt64 (r (16 + i9.toNatClampNeg))))], [ob bc 8 [.ref tx, .ref (a 0), .ref (b 0), .ref hi, .ref sl]], (stW ty a r x y g)]) := hD
    exact end_i (bs' := (fun (_ : Unit) => [[la ty ot 1 (vp_updL of 0 (Int32.toInt64 (r (16 + i9.toNatClampNeg))))], [ob bc 8 [.ref tx, .ref (a 0), .ref (b 0), .ref hi, .ref sl]], (stW ty a r x y g)])) () hx hb hr hlocks hP hD hS (by first | rfl | decide | simp []) (Nat.le_of_ble_eq_true rfl) (Nat.le_of_ble_eq_true rfl) dL_register_16
