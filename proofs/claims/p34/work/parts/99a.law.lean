set_option maxHeartbeats 8000000 in
set_option maxRecDepth 100000 in
theorem k_size (l : Launch) (D : va_G) (ty : Nat → ClassId) (v9 : Int32) : CTi l yL_size wsL_size ({ frames := 0, cells := 0, slots := 0, locals := 0 }) D ty [.int v9] [] (fun (RET : Int32) (_ : Unit) => RET = (if v9 < 0 then -v9 else v9)) (fun (_ : Unit) => []) := by
  refine CTi_of cL_size 1 (some .int) (by decide) rfl (Nat.le_of_ble_eq_true rfl) ?_
  intro p e s m args below meth c A hx hb hr hml hown hlocks hin hts hA hX hK hP hD ls hl
  have hown : s.vm.findClass RL = some m.cls := hown
  have hS : va_S A s.heap s.heap [] := va_S.rf
  have hl : lv_has ls 1 [(0, .int v9)] := hl
  generalize hQg : MQ below (va_Qi (fun (RET : Int32) (_ : Unit) => RET = (if v9 < 0 then -v9 else v9)) (PostW D (fun (_ : Unit) => []) A) A) args s 0 0 A = Qg
  refine lv_iload_n hx hb dL_size_0 rfl (lv_at hl 0 rfl) ?_
  refine lv_if_ge (tgt := 9) hx hb dL_size_1 (by decide) (fun c_1 => ?_) (fun c_1 => ?_)
  · skip
    refine lv_iload_n hx hb dL_size_9 rfl (lv_at hl 0 rfl) ?_
    subst hQg
    have hP : va_P D vwCl (fl []) s.heap := hP
    have hD : va_D A (fl []) := hD
    exact end_i (bs' := (fun (_ : Unit) => [])) () hx hb hr hlocks hP hD hS ((if_neg (Int32.not_lt.mpr c_1)).symm) (Nat.le_of_ble_eq_true rfl) (Nat.le_of_ble_eq_true rfl) dL_size_10
  · skip
    refine lv_iload_n hx hb dL_size_4 rfl (lv_at hl 0 rfl) ?_
    refine k_ineg (v := (-v9)) hx hb dL_size_5 rfl ?_
    refine lv_goto (tgt := 10) hx hb dL_size_6 (by decide) ?_
    subst hQg
    have hP : va_P D vwCl (fl []) s.heap := hP
    have hD : va_D A (fl []) := hD
    exact end_i (bs' := (fun (_ : Unit) => [])) () hx hb hr hlocks hP hD hS ((if_pos (fa_of_nle c_1)).symm) (Nat.le_of_ble_eq_true rfl) (Nat.le_of_ble_eq_true rfl) dL_size_10
set_option maxHeartbeats 8000000 in
set_option maxRecDepth 100000 in
theorem k_number (l : Launch) (D : va_G) (ty : Nat → ClassId) (sb L : Nat) (xs : Nat → Int32) (k9 : Nat) (hk9 : k9 < 1000) (hL9 : L ≤ 260) : CSi l yL_number wsL_number ({ frames := 0, cells := 0, slots := 0, locals := 0 }) D ty sb L xs [.ref sb, .int (nI k9)] [] (fun (RET : Int32) (n9 : Nat) => RET = (nI n9) ∧ n9 < 2 ^ 31) (fun (n9 : Nat) => []) := by
  refine CSi_of cL_number 2 (some .int) (by decide) rfl (Nat.le_of_ble_eq_true rfl) ?_
  intro p e s m args below meth c A hx hb hr hml hown hlocks hin hts hA hX hK hP hD hT ls hl
  have hown : s.vm.findClass RL = some m.cls := hown
  have hS : va_S A s.heap s.heap [] := va_S.rf
  have hl : lv_has ls 2 [(0, .ref sb), (1, .int (nI k9))] := hl
  generalize hQg : MQ below (va_Qi (fun (RET : Int32) (n9 : Nat) => RET = (nI n9) ∧ n9 < 2 ^ 31) (PostW D (fun (n9 : Nat) => []) A) A) args s 0 0 A = Qg
  refine lv_iload_n hx hb dL_number_0 rfl (lv_at hl 1 rfl) ?_
  refine lv_aload_n hx hb dL_number_1 rfl (lv_at hl 0 rfl) ?_
  refine va_tlen hx hb hT hS (v := nI L) rfl dL_number_2 ?_
  refine lv_icmp_ge (tgt := 12) hx hb dL_number_3 (by decide) (fun c_1 => ?_) (fun c_1 => ?_)
  · skip
    refine lv_ldc hx hb hown (hts (Cond.constant RL 109 (15517471)) (List.mem_of_getElem? (i := 1) rfl)) dL_number_12 ?_
    refine lv_iload_n hx hb dL_number_14 rfl (lv_at hl 1 rfl) ?_
    refine lv_iconst (v := 5) hx hb dL_number_15 (by decide) ?_
    refine k_iadd (v := ((nI k9) + 5)) hx hb dL_number_16 rfl ?_
    refine k_imul (v := (15517471 * ((nI k9) + 5))) hx hb dL_number_17 rfl ?_
    refine lv_sipush (v := 10163) hx hb dL_number_18 (by decide) ?_
    refine k_iadd (v := ((15517471 * ((nI k9) + 5)) + 10163)) hx hb dL_number_21 rfl ?_
    refine lv_ldc hx hb hown (hts (Cond.constant RL 110 (2147483647)) (List.mem_of_getElem? (i := 2) rfl)) dL_number_22 ?_
    refine k_iand (v := (((15517471 * ((nI k9) + 5)) + 10163) &&& 2147483647)) hx hb dL_number_24 rfl ?_
    obtain ⟨n9, hn9, hn8⟩ := and31 ((15517471 * ((nI k9) + 5)) + 10163)
    refine W.eq (g2 := F0 m 25 ls [.int (nI n9)]) (by rw [hn8]) ?_
    subst hQg
    have hP : va_P D vwCl (fl []) s.heap := hP
    have hD : va_D A (fl []) := hD
    exact end_i (bs' := (fun (n9 : Nat) => [])) n9 hx hb hr hlocks hP hD hS (⟨rfl, hn9⟩) (Nat.le_of_ble_eq_true rfl) (Nat.le_of_ble_eq_true rfl) dL_number_25
  · skip
    have hkL : k9 < L := by have q := c_1; rw [nI_leI (by omega) (by omega)] at q; omega
    refine lv_aload_n hx hb dL_number_6 rfl (lv_at hl 0 rfl) ?_
    refine lv_iload_n hx hb dL_number_7 rfl (lv_at hl 1 rfl) ?_
    refine va_ti hx hb hT hS (vp_in_nI (by omega) (by omega)) (v := .int (xs k9)) (by show Value.int (xs (nI k9).toNatClampNeg) = _; rw [nI_clamp (by omega)]) dL_number_8 ?_
    refine lv_goto (tgt := 22) hx hb dL_number_9 (by decide) ?_
    refine lv_ldc hx hb hown (hts (Cond.constant RL 110 (2147483647)) (List.mem_of_getElem? (i := 2) rfl)) dL_number_22 ?_
    refine k_iand (v := ((xs k9) &&& 2147483647)) hx hb dL_number_24 rfl ?_
    obtain ⟨n9, hn9, hn8⟩ := and31 (xs k9)
    refine W.eq (g2 := F0 m 25 ls [.int (nI n9)]) (by rw [hn8]) ?_
    subst hQg
    have hP : va_P D vwCl (fl []) s.heap := hP
    have hD : va_D A (fl []) := hD
    exact end_i (bs' := (fun (n9 : Nat) => [])) n9 hx hb hr hlocks hP hD hS (⟨rfl, hn9⟩) (Nat.le_of_ble_eq_true rfl) (Nat.le_of_ble_eq_true rfl) dL_number_25
set_option maxHeartbeats 8000000 in
set_option maxRecDepth 100000 in
theorem k_put (l : Launch) (D : va_G) (ty : Nat → ClassId) (c9 : Int32) (aC : CA) (tC : CTx) (pC : CPg) (hC : CHs) (kC : CKs) (sC : CSc) (aE : CA) (tE : CTx) (pE : CPg) (hE : CHs) (kE : CKs) (sE : CSc) (hst : l.stackTraces = false) (hc0 : inR c9 0 255) (hl1 : tC.1 < 60) (hl2 : tE.1 < 60) : CTi l yL_put wsL_put ({ frames := 9, cells := 4, slots := 24, locals := 147 }) D ty [.ref (aC.1 0), .ref (aE.1 0), .int c9] [(CLK ty aC tC pC hC kC sC), (CLK ty aE tE pE hE kE sE)] (fun (RET : Int32) (_ : Unit) => RET = 1) (fun (_ : Unit) => [(CLK ty aC ((tC.1 + 1), (upd tC.2 tC.1 c9)) pC hC kC sC), (CLK ty aE ((tE.1 + 1), (upd tE.2 tE.1 c9)) pE hE kE sE)]) := by
  refine CTi_of cL_put 3 (some .boolean) (by decide) rfl (Nat.le_of_ble_eq_true rfl) ?_
  intro p e s m args below meth c A hx hb hr hml hown hlocks hin hts hA hX hK hP hD ls hl
  have hown : s.vm.findClass RL = some m.cls := hown
  have hS : va_S A s.heap s.heap [] := va_S.rf
  have hl : lv_has ls 3 [(0, .ref (aC.1 0)), (1, .ref (aE.1 0)), (2, .int c9)] := hl
  generalize hQg : MQ below (va_Qi (fun (RET : Int32) (_ : Unit) => RET = 1) (PostW D (fun (_ : Unit) => [(CLK ty aC ((tC.1 + 1), (upd tC.2 tC.1 c9)) pC hC kC sC), (CLK ty aE ((tE.1 + 1), (upd tE.2 tE.1 c9)) pE hE kE sE)]) A) A) args s 4 24 A = Qg
  refine lv_aload_n hx hb dL_put_0 rfl (lv_at hl 0 rfl) ?_
  refine lv_iload_n hx hb dL_put_1 rfl (lv_at hl 2 rfl) ?_
  refine cSWi (As := [.ref (aC.1 0), .int c9]) (rest := []) ⟨hx, hb, hml, hown, hts⟩ (k_append l D ty c9 aC tC pC hC kC sC hst ((by omega)) hc0 ((by omega))) (vx_cwSW 2 hts gL_put_L_tryAppend rfl rfl rfl (by decide +kernel) ⟨Nat.le_of_ble_eq_true rfl, Nat.le_of_ble_eq_true rfl⟩) hK hX hP hD hS hA (pk (bs := [(CLK ty aC tC pC hC kC sC), (CLK ty aE tE pE hE kE sE)]) (bsc := [(CLK ty aC tC pC hC kC sC)]) (bsr := [(CLK ty aE tE pE hE kE sE)]) [0] [1] 2 rfl (by decide +kernel) rfl rfl) rfl hl.1 rfl (Nat.le_of_ble_eq_true rfl) dL_put_2 ⟨Nat.le_of_ble_eq_true rfl, Nat.le_of_ble_eq_true rfl⟩ (fun r_2 u_1 h_3 H locs hP hD hS => ?_)
  have h_r_2 : r_2 = (nI (tC.1 + 1)) := h_3
  subst h_r_2
  have hP : va_P D vwCl (fl [(CLK ty aC ((tC.1 + 1), (upd tC.2 tC.1 c9)) pC hC kC sC), (CLK ty aE tE pE hE kE sE)]) H := hP
  have hD : va_D A (fl [(CLK ty aC ((tC.1 + 1), (upd tC.2 tC.1 c9)) pC hC kC sC), (CLK ty aE tE pE hE kE sE)]) := hD
  refine lv_if_le (tgt := 20) hx hb dL_put_5 (by decide) (fun c_4 => ?_) (fun c_4 => ?_)
  · first | exact absurd c_4 (nI_gt0 (n := tC.1) (by omega)) | exact absurd (nI_gt0 (n := tC.1) (by omega)) c_4
  · skip
    refine lv_aload_n hx hb dL_put_8 rfl (lv_at hl 1 rfl) ?_
    refine lv_iload_n hx hb dL_put_9 rfl (lv_at hl 2 rfl) ?_
    refine cSWi (As := [.ref (aE.1 0), .int c9]) (rest := []) ⟨hx, hb, hml, hown, hts⟩ (k_append l D ty c9 aE tE pE hE kE sE hst ((by omega)) hc0 ((by omega))) (vx_cwSW 2 hts gL_put_L_tryAppend rfl rfl rfl (by decide +kernel) ⟨Nat.le_of_ble_eq_true rfl, Nat.le_of_ble_eq_true rfl⟩) hK hX hP hD hS hA (pk (bs := [(CLK ty aC ((tC.1 + 1), (upd tC.2 tC.1 c9)) pC hC kC sC), (CLK ty aE tE pE hE kE sE)]) (bsc := [(CLK ty aE tE pE hE kE sE)]) (bsr := [(CLK ty aC ((tC.1 + 1), (upd tC.2 tC.1 c9)) pC hC kC sC)]) [1] [0] 2 rfl (by decide +kernel) rfl rfl) rfl hl.1 rfl (Nat.le_of_ble_eq_true rfl) dL_put_10 ⟨Nat.le_of_ble_eq_true rfl, Nat.le_of_ble_eq_true rfl⟩ (fun r_6 u_5 h_7 H locs hP hD hS => ?_)
    have h_r_6 : r_6 = (nI (tE.1 + 1)) := h_7
    subst h_r_6
    have hP : va_P D vwCl (fl [(CLK ty aC ((tC.1 + 1), (upd tC.2 tC.1 c9)) pC hC kC sC), (CLK ty aE ((tE.1 + 1), (upd tE.2 tE.1 c9)) pE hE kE sE)]) H := P_perm (po (bs := [(CLK ty aE ((tE.1 + 1), (upd tE.2 tE.1 c9)) pE hE kE sE), (CLK ty aC ((tC.1 + 1), (upd tC.2 tC.1 c9)) pC hC kC sC)]) [1, 0] 2 rfl (by decide +kernel) rfl) hP
    have hD : va_D A (fl [(CLK ty aC ((tC.1 + 1), (upd tC.2 tC.1 c9)) pC hC kC sC), (CLK ty aE ((tE.1 + 1), (upd tE.2 tE.1 c9)) pE hE kE sE)]) := D_perm (po (bs := [(CLK ty aE ((tE.1 + 1), (upd tE.2 tE.1 c9)) pE hE kE sE), (CLK ty aC ((tC.1 + 1), (upd tC.2 tC.1 c9)) pC hC kC sC)]) [1, 0] 2 rfl (by decide +kernel) rfl) hD
    refine lv_if_le (tgt := 20) hx hb dL_put_13 (by decide) (fun c_8 => ?_) (fun c_8 => ?_)
    · first | exact absurd c_8 (nI_gt0 (n := tE.1) (by omega)) | exact absurd (nI_gt0 (n := tE.1) (by omega)) c_8
    · skip
      refine lv_iconst (v := 1) hx hb dL_put_16 (by decide) ?_
      refine lv_goto (tgt := 21) hx hb dL_put_17 (by decide) ?_
      subst hQg
      have hP : va_P D vwCl (fl [(CLK ty aC ((tC.1 + 1), (upd tC.2 tC.1 c9)) pC hC kC sC), (CLK ty aE ((tE.1 + 1), (upd tE.2 tE.1 c9)) pE hE kE sE)]) H := hP
      have hD : va_D A (fl [(CLK ty aC ((tC.1 + 1), (upd tC.2 tC.1 c9)) pC hC kC sC), (CLK ty aE ((tE.1 + 1), (upd tE.2 tE.1 c9)) pE hE kE sE)]) := hD
      exact end_z (bs' := (fun (_ : Unit) => [(CLK ty aC ((tC.1 + 1), (upd tC.2 tC.1 c9)) pC hC kC sC), (CLK ty aE ((tE.1 + 1), (upd tE.2 tE.1 c9)) pE hE kE sE)])) () hx hb hr hlocks rfl hP hD hS rfl (Nat.le_of_ble_eq_true rfl) (Nat.le_of_ble_eq_true rfl) dL_put_21
set_option maxHeartbeats 8000000 in
set_option maxRecDepth 100000 in
theorem k_digits10 (l : Launch) (D : va_G) (ty : Nat → ClassId) (n9 : Nat) (aC : CA) (tC : CTx) (pC : CPg) (hC : CHs) (kC : CKs) (sC : CSc) (aE : CA) (tE : CTx) (pE : CPg) (hE : CHs) (kE : CKs) (sE : CSc) (hst : l.stackTraces = false) (hn9 : n9 < 10000) (hl1 : tC.1 + 2 ≤ 60) (hl2 : tE.1 + 2 ≤ 60) : CTi l yL_digits wsL_digits ({ frames := 10, cells := 8, slots := 48, locals := 169 }) D ty [.ref (aC.1 0), .ref (aE.1 0), .int (nI n9), .int 10] [(CLK ty aC tC pC hC kC sC), (CLK ty aE tE pE hE kE sE)] (fun (RET : Int32) (_ : Unit) => RET = 1) (fun (_ : Unit) => [(CLK ty aC (((tC.1 + 1) + 1), (upd (upd tC.2 tC.1 (nI (48 + n9 / 10 % 10))) (tC.1 + 1) (nI (48 + n9 / 1 % 10)))) pC hC kC sC), (CLK ty aE (((tE.1 + 1) + 1), (upd (upd tE.2 tE.1 (nI (48 + n9 / 10 % 10))) (tE.1 + 1) (nI (48 + n9 / 1 % 10)))) pE hE kE sE)]) := by
  refine CTi_of cL_digits 6 (some .boolean) (by decide) rfl (Nat.le_of_ble_eq_true rfl) ?_
  intro p e s m args below meth c A hx hb hr hml hown hlocks hin hts hA hX hK hP hD ls hl
  have hown : s.vm.findClass RL = some m.cls := hown
  have hS : va_S A s.heap s.heap [] := va_S.rf
  have hl : lv_has ls 6 [(0, .ref (aC.1 0)), (1, .ref (aE.1 0)), (2, .int (nI n9)), (3, .int 10)] := hl
  generalize hQg : MQ below (va_Qi (fun (RET : Int32) (_ : Unit) => RET = 1) (PostW D (fun (_ : Unit) => [(CLK ty aC (((tC.1 + 1) + 1), (upd (upd tC.2 tC.1 (nI (48 + n9 / 10 % 10))) (tC.1 + 1) (nI (48 + n9 / 1 % 10)))) pC hC kC sC), (CLK ty aE (((tE.1 + 1) + 1), (upd (upd tE.2 tE.1 (nI (48 + n9 / 10 % 10))) (tE.1 + 1) (nI (48 + n9 / 1 % 10)))) pE hE kE sE)]) A) A) args s 8 48 A = Qg
  refine lv_iconst (v := 1) hx hb dL_digits_0 (by decide) ?_
  refine lv_istore (lv' := [(4, .int 1), (0, .ref (aC.1 0)), (1, .ref (aE.1 0)), (2, .int (nI n9)), (3, .int 10)]) hx hb dL_digits_1 hl (by decide) rfl (fun ls hl => ?_)
  refine lv_iload_n hx hb dL_digits_3 rfl (lv_at hl 4 rfl) ?_
  refine lv_istore (lv' := [(5, .int 10), (4, .int 1), (0, .ref (aC.1 0)), (1, .ref (aE.1 0)), (2, .int (nI n9)), (3, .int 10)]) hx hb dL_digits_4 hl (by decide) rfl (fun ls hl => ?_)
  refine lv_iload hx hb dL_digits_6 (lv_at hl 0 rfl) ?_
  refine lv_if_le (tgt := 51) hx hb dL_digits_8 (by decide) (fun c_1 => ?_) (fun c_1 => ?_)
  · exact absurd c_1 (by decide)
  · skip
    refine lv_iload hx hb dL_digits_11 (lv_at hl 1 rfl) ?_
    refine lv_if_eq (tgt := 38) hx hb dL_digits_13 (by decide) (fun c_2 => ?_) (fun c_2 => ?_)
    · exact absurd c_2 (by decide)
    · skip
      refine lv_aload_n hx hb dL_digits_16 rfl (lv_at hl 2 rfl) ?_
      refine lv_aload_n hx hb dL_digits_17 rfl (lv_at hl 3 rfl) ?_
      refine lv_bipush (v := 48) hx hb dL_digits_18 (by decide) ?_
      refine lv_iload_n hx hb dL_digits_20 rfl (lv_at hl 4 rfl) ?_
      refine lv_iload hx hb dL_digits_21 (lv_at hl 0 rfl) ?_
      refine k_idiv (v := (nI (n9 / 10))) hx hb dL_digits_23 (by decide) (pk_div (a := n9) (d := 10) (by omega) (by decide) (by decide)) ?_
      refine lv_bipush (v := 10) hx hb dL_digits_24 (by decide) ?_
      refine k_irem (v := (nI (n9 / 10 % 10))) hx hb dL_digits_26 (by decide) (pk_rem (a := n9 / 10) (d := 10) (by omega) (by decide) (by decide)) ?_
      refine k_iadd (v := (nI (48 + (n9 / 10 % 10)))) hx hb dL_digits_27 (nI_add 48 (n9 / 10 % 10)) ?_
      refine cSi (As := [.ref (aC.1 0), .ref (aE.1 0), .int (nI (48 + (n9 / 10 % 10)))]) (rest := []) ⟨hx, hb, hml, hown, hts⟩ (k_put l D ty (nI (48 + (n9 / 10 % 10))) aC tC pC hC kC sC aE tE pE hE kE sE hst ((inR0 (n := 48 + (n9 / 10 % 10)) (h := 255) (by omega) (by decide))) ((by omega)) ((by omega))) (va_cwS 3 hts gL_digits_L_put rfl rfl rfl (by decide +kernel) ⟨Nat.le_of_ble_eq_true rfl, Nat.le_of_ble_eq_true rfl⟩) hK hX hP hD hS hA (pk (bs := [(CLK ty aC tC pC hC kC sC), (CLK ty aE tE pE hE kE sE)]) (bsc := [(CLK ty aC tC pC hC kC sC), (CLK ty aE tE pE hE kE sE)]) (bsr := []) [0, 1] [] 2 rfl (by decide +kernel) rfl rfl) rfl hl.1 rfl (Nat.le_of_ble_eq_true rfl) dL_digits_28 ⟨Nat.le_of_ble_eq_true rfl, Nat.le_of_ble_eq_true rfl⟩ (fun r_4 u_3 h_5 H locs hP hD hS => ?_)
      have h_r_4 : r_4 = 1 := h_5
      subst h_r_4
      have hP : va_P D vwCl (fl [(CLK ty aC ((tC.1 + 1), (upd tC.2 tC.1 (nI (48 + (n9 / 10 % 10))))) pC hC kC sC), (CLK ty aE ((tE.1 + 1), (upd tE.2 tE.1 (nI (48 + (n9 / 10 % 10))))) pE hE kE sE)]) H := hP
      have hD : va_D A (fl [(CLK ty aC ((tC.1 + 1), (upd tC.2 tC.1 (nI (48 + (n9 / 10 % 10))))) pC hC kC sC), (CLK ty aE ((tE.1 + 1), (upd tE.2 tE.1 (nI (48 + (n9 / 10 % 10))))) pE hE kE sE)]) := hD
      refine lv_if_eq (tgt := 38) hx hb dL_digits_31 (by decide) (fun c_6 => ?_) (fun c_6 => ?_)
      · exact absurd c_6 (by decide)
      · skip
        refine lv_iconst (v := 1) hx hb dL_digits_34 (by decide) ?_
        refine lv_goto (tgt := 39) hx hb dL_digits_35 (by decide) ?_
        refine lv_istore (lv' := [(4, .int 1), (5, .int 10), (0, .ref (aC.1 0)), (1, .ref (aE.1 0)), (2, .int (nI n9)), (3, .int 10)]) hx hb dL_digits_39 hl (by decide) rfl (fun ls hl => ?_)
        refine lv_iload hx hb dL_digits_41 (lv_at hl 1 rfl) ?_
        refine lv_bipush (v := 10) hx hb dL_digits_43 (by decide) ?_
        refine k_idiv (v := 1) hx hb dL_digits_45 (by decide) (by decide) ?_
        refine lv_istore (lv' := [(5, .int 1), (4, .int 1), (0, .ref (aC.1 0)), (1, .ref (aE.1 0)), (2, .int (nI n9)), (3, .int 10)]) hx hb dL_digits_46 hl (by decide) rfl (fun ls hl => ?_)
        refine lv_goto (tgt := 6) hx hb dL_digits_48 (by decide) ?_
        refine lv_iload hx hb dL_digits_6 (lv_at hl 0 rfl) ?_
        refine lv_if_le (tgt := 51) hx hb dL_digits_8 (by decide) (fun c_7 => ?_) (fun c_7 => ?_)
        · exact absurd c_7 (by decide)
        · skip
          refine lv_iload hx hb dL_digits_11 (lv_at hl 1 rfl) ?_
          refine lv_if_eq (tgt := 38) hx hb dL_digits_13 (by decide) (fun c_8 => ?_) (fun c_8 => ?_)
          · exact absurd c_8 (by decide)
          · skip
            refine lv_aload_n hx hb dL_digits_16 rfl (lv_at hl 2 rfl) ?_
            refine lv_aload_n hx hb dL_digits_17 rfl (lv_at hl 3 rfl) ?_
            refine lv_bipush (v := 48) hx hb dL_digits_18 (by decide) ?_
            refine lv_iload_n hx hb dL_digits_20 rfl (lv_at hl 4 rfl) ?_
            refine lv_iload hx hb dL_digits_21 (lv_at hl 0 rfl) ?_
            refine k_idiv (v := (nI (n9 / 1))) hx hb dL_digits_23 (by decide) (pk_div (a := n9) (d := 1) (by omega) (by decide) (by decide)) ?_
            refine lv_bipush (v := 10) hx hb dL_digits_24 (by decide) ?_
            refine k_irem (v := (nI (n9 / 1 % 10))) hx hb dL_digits_26 (by decide) (pk_rem (a := n9 / 1) (d := 10) (by omega) (by decide) (by decide)) ?_
            refine k_iadd (v := (nI (48 + (n9 / 1 % 10)))) hx hb dL_digits_27 (nI_add 48 (n9 / 1 % 10)) ?_
            refine cSi (As := [.ref (aC.1 0), .ref (aE.1 0), .int (nI (48 + (n9 / 1 % 10)))]) (rest := []) ⟨hx, hb, hml, hown, hts⟩ (k_put l D ty (nI (48 + (n9 / 1 % 10))) aC ((tC.1 + 1), (upd tC.2 tC.1 (nI (48 + (n9 / 10 % 10))))) pC hC kC sC aE ((tE.1 + 1), (upd tE.2 tE.1 (nI (48 + (n9 / 10 % 10))))) pE hE kE sE hst ((inR0 (n := 48 + (n9 / 1 % 10)) (h := 255) (by omega) (by decide))) ((by omega)) ((by omega))) (va_cwS 3 hts gL_digits_L_put rfl rfl rfl (by decide +kernel) ⟨Nat.le_of_ble_eq_true rfl, Nat.le_of_ble_eq_true rfl⟩) hK hX hP hD hS hA (pk (bs := [(CLK ty aC ((tC.1 + 1), (upd tC.2 tC.1 (nI (48 + (n9 / 10 % 10))))) pC hC kC sC), (CLK ty aE ((tE.1 + 1), (upd tE.2 tE.1 (nI (48 + (n9 / 10 % 10))))) pE hE kE sE)]) (bsc := [(CLK ty aC ((tC.1 + 1), (upd tC.2 tC.1 (nI (48 + (n9 / 10 % 10))))) pC hC kC sC), (CLK ty aE ((tE.1 + 1), (upd tE.2 tE.1 (nI (48 + (n9 / 10 % 10))))) pE hE kE sE)]) (bsr := []) [0, 1] [] 2 rfl (by decide +kernel) rfl rfl) rfl hl.1 rfl (Nat.le_of_ble_eq_true rfl) dL_digits_28 ⟨Nat.le_of_ble_eq_true rfl, Nat.le_of_ble_eq_true rfl⟩ (fun r_10 u_9 h_11 H locs hP hD hS => ?_)
            have h_r_10 : r_10 = 1 := h_11
            subst h_r_10
            have hP : va_P D vwCl (fl [(CLK ty aC (((tC.1 + 1) + 1), (upd (upd tC.2 tC.1 (nI (48 + (n9 / 10 % 10)))) (tC.1 + 1) (nI (48 + (n9 / 1 % 10))))) pC hC kC sC), (CLK ty aE (((tE.1 + 1) + 1), (upd (upd tE.2 tE.1 (nI (48 + (n9 / 10 % 10)))) (tE.1 + 1) (nI (48 + (n9 / 1 % 10))))) pE hE kE sE)]) H := hP
            have hD : va_D A (fl [(CLK ty aC (((tC.1 + 1) + 1), (upd (upd tC.2 tC.1 (nI (48 + (n9 / 10 % 10)))) (tC.1 + 1) (nI (48 + (n9 / 1 % 10))))) pC hC kC sC), (CLK ty aE (((tE.1 + 1) + 1), (upd (upd tE.2 tE.1 (nI (48 + (n9 / 10 % 10)))) (tE.1 + 1) (nI (48 + (n9 / 1 % 10))))) pE hE kE sE)]) := hD
            refine lv_if_eq (tgt := 38) hx hb dL_digits_31 (by decide) (fun c_12 => ?_) (fun c_12 => ?_)
            · exact absurd c_12 (by decide)
            · skip
              refine lv_iconst (v := 1) hx hb dL_digits_34 (by decide) ?_
              refine lv_goto (tgt := 39) hx hb dL_digits_35 (by decide) ?_
              refine lv_istore (lv' := [(4, .int 1), (5, .int 1), (0, .ref (aC.1 0)), (1, .ref (aE.1 0)), (2, .int (nI n9)), (3, .int 10)]) hx hb dL_digits_39 hl (by decide) rfl (fun ls hl => ?_)
              refine lv_iload hx hb dL_digits_41 (lv_at hl 1 rfl) ?_
              refine lv_bipush (v := 10) hx hb dL_digits_43 (by decide) ?_
              refine k_idiv (v := 0) hx hb dL_digits_45 (by decide) (by decide) ?_
              refine lv_istore (lv' := [(5, .int 0), (4, .int 1), (0, .ref (aC.1 0)), (1, .ref (aE.1 0)), (2, .int (nI n9)), (3, .int 10)]) hx hb dL_digits_46 hl (by decide) rfl (fun ls hl => ?_)
              refine lv_goto (tgt := 6) hx hb dL_digits_48 (by decide) ?_
              refine lv_iload hx hb dL_digits_6 (lv_at hl 0 rfl) ?_
              refine lv_if_le (tgt := 51) hx hb dL_digits_8 (by decide) (fun c_13 => ?_) (fun c_13 => ?_)
              · skip
                refine lv_iload hx hb dL_digits_51 (lv_at hl 1 rfl) ?_
                subst hQg
                have hP : va_P D vwCl (fl [(CLK ty aC (((tC.1 + 1) + 1), (upd (upd tC.2 tC.1 (nI (48 + n9 / 10 % 10))) (tC.1 + 1) (nI (48 + n9 / 1 % 10)))) pC hC kC sC), (CLK ty aE (((tE.1 + 1) + 1), (upd (upd tE.2 tE.1 (nI (48 + n9 / 10 % 10))) (tE.1 + 1) (nI (48 + n9 / 1 % 10)))) pE hE kE sE)]) H := hP
                have hD : va_D A (fl [(CLK ty aC (((tC.1 + 1) + 1), (upd (upd tC.2 tC.1 (nI (48 + n9 / 10 % 10))) (tC.1 + 1) (nI (48 + n9 / 1 % 10)))) pC hC kC sC), (CLK ty aE (((tE.1 + 1) + 1), (upd (upd tE.2 tE.1 (nI (48 + n9 / 10 % 10))) (tE.1 + 1) (nI (48 + n9 / 1 % 10)))) pE hE kE sE)]) := hD
                exact end_z (bs' := (fun (_ : Unit) => [(CLK ty aC (((tC.1 + 1) + 1), (upd (upd tC.2 tC.1 (nI (48 + n9 / 10 % 10))) (tC.1 + 1) (nI (48 + n9 / 1 % 10)))) pC hC kC sC), (CLK ty aE (((tE.1 + 1) + 1), (upd (upd tE.2 tE.1 (nI (48 + n9 / 10 % 10))) (tE.1 + 1) (nI (48 + n9 / 1 % 10)))) pE hE kE sE)])) () hx hb hr hlocks rfl hP hD hS rfl (Nat.le_of_ble_eq_true rfl) (Nat.le_of_ble_eq_true rfl) dL_digits_53
              · exact absurd (by decide) c_13
set_option maxHeartbeats 8000000 in
set_option maxRecDepth 100000 in
theorem k_digits100 (l : Launch) (D : va_G) (ty : Nat → ClassId) (n9 : Nat) (aC : CA) (tC : CTx) (pC : CPg) (hC : CHs) (kC : CKs) (sC : CSc) (aE : CA) (tE : CTx) (pE : CPg) (hE : CHs) (kE : CKs) (sE : CSc) (hst : l.stackTraces = false) (hn9 : n9 < 10000) (hl1 : tC.1 + 3 ≤ 60) (hl2 : tE.1 + 3 ≤ 60) : CTi l yL_digits wsL_digits ({ frames := 10, cells := 12, slots := 72, locals := 169 }) D ty [.ref (aC.1 0), .ref (aE.1 0), .int (nI n9), .int 100] [(CLK ty aC tC pC hC kC sC), (CLK ty aE tE pE hE kE sE)] (fun (RET : Int32) (_ : Unit) => RET = 1) (fun (_ : Unit) => [(CLK ty aC ((((tC.1 + 1) + 1) + 1), (upd (upd (upd tC.2 tC.1 (nI (48 + n9 / 100 % 10))) (tC.1 + 1) (nI (48 + n9 / 10 % 10))) ((tC.1 + 1) + 1) (nI (48 + n9 / 1 % 10)))) pC hC kC sC), (CLK ty aE ((((tE.1 + 1) + 1) + 1), (upd (upd (upd tE.2 tE.1 (nI (48 + n9 / 100 % 10))) (tE.1 + 1) (nI (48 + n9 / 10 % 10))) ((tE.1 + 1) + 1) (nI (48 + n9 / 1 % 10)))) pE hE kE sE)]) := by
  refine CTi_of cL_digits 6 (some .boolean) (by decide) rfl (Nat.le_of_ble_eq_true rfl) ?_
  intro p e s m args below meth c A hx hb hr hml hown hlocks hin hts hA hX hK hP hD ls hl
  have hown : s.vm.findClass RL = some m.cls := hown
  have hS : va_S A s.heap s.heap [] := va_S.rf
  have hl : lv_has ls 6 [(0, .ref (aC.1 0)), (1, .ref (aE.1 0)), (2, .int (nI n9)), (3, .int 100)] := hl
  generalize hQg : MQ below (va_Qi (fun (RET : Int32) (_ : Unit) => RET = 1) (PostW D (fun (_ : Unit) => [(CLK ty aC ((((tC.1 + 1) + 1) + 1), (upd (upd (upd tC.2 tC.1 (nI (48 + n9 / 100 % 10))) (tC.1 + 1) (nI (48 + n9 / 10 % 10))) ((tC.1 + 1) + 1) (nI (48 + n9 / 1 % 10)))) pC hC kC sC), (CLK ty aE ((((tE.1 + 1) + 1) + 1), (upd (upd (upd tE.2 tE.1 (nI (48 + n9 / 100 % 10))) (tE.1 + 1) (nI (48 + n9 / 10 % 10))) ((tE.1 + 1) + 1) (nI (48 + n9 / 1 % 10)))) pE hE kE sE)]) A) A) args s 12 72 A = Qg
  refine lv_iconst (v := 1) hx hb dL_digits_0 (by decide) ?_
  refine lv_istore (lv' := [(4, .int 1), (0, .ref (aC.1 0)), (1, .ref (aE.1 0)), (2, .int (nI n9)), (3, .int 100)]) hx hb dL_digits_1 hl (by decide) rfl (fun ls hl => ?_)
  refine lv_iload_n hx hb dL_digits_3 rfl (lv_at hl 4 rfl) ?_
  refine lv_istore (lv' := [(5, .int 100), (4, .int 1), (0, .ref (aC.1 0)), (1, .ref (aE.1 0)), (2, .int (nI n9)), (3, .int 100)]) hx hb dL_digits_4 hl (by decide) rfl (fun ls hl => ?_)
  refine lv_iload hx hb dL_digits_6 (lv_at hl 0 rfl) ?_
  refine lv_if_le (tgt := 51) hx hb dL_digits_8 (by decide) (fun c_1 => ?_) (fun c_1 => ?_)
  · exact absurd c_1 (by decide)
  · skip
    refine lv_iload hx hb dL_digits_11 (lv_at hl 1 rfl) ?_
    refine lv_if_eq (tgt := 38) hx hb dL_digits_13 (by decide) (fun c_2 => ?_) (fun c_2 => ?_)
    · exact absurd c_2 (by decide)
    · skip
      refine lv_aload_n hx hb dL_digits_16 rfl (lv_at hl 2 rfl) ?_
      refine lv_aload_n hx hb dL_digits_17 rfl (lv_at hl 3 rfl) ?_
      refine lv_bipush (v := 48) hx hb dL_digits_18 (by decide) ?_
      refine lv_iload_n hx hb dL_digits_20 rfl (lv_at hl 4 rfl) ?_
      refine lv_iload hx hb dL_digits_21 (lv_at hl 0 rfl) ?_
      refine k_idiv (v := (nI (n9 / 100))) hx hb dL_digits_23 (by decide) (pk_div (a := n9) (d := 100) (by omega) (by decide) (by decide)) ?_
      refine lv_bipush (v := 10) hx hb dL_digits_24 (by decide) ?_
      refine k_irem (v := (nI (n9 / 100 % 10))) hx hb dL_digits_26 (by decide) (pk_rem (a := n9 / 100) (d := 10) (by omega) (by decide) (by decide)) ?_
      refine k_iadd (v := (nI (48 + (n9 / 100 % 10)))) hx hb dL_digits_27 (nI_add 48 (n9 / 100 % 10)) ?_
      refine cSi (As := [.ref (aC.1 0), .ref (aE.1 0), .int (nI (48 + (n9 / 100 % 10)))]) (rest := []) ⟨hx, hb, hml, hown, hts⟩ (k_put l D ty (nI (48 + (n9 / 100 % 10))) aC tC pC hC kC sC aE tE pE hE kE sE hst ((inR0 (n := 48 + (n9 / 100 % 10)) (h := 255) (by omega) (by decide))) ((by omega)) ((by omega))) (va_cwS 3 hts gL_digits_L_put rfl rfl rfl (by decide +kernel) ⟨Nat.le_of_ble_eq_true rfl, Nat.le_of_ble_eq_true rfl⟩) hK hX hP hD hS hA (pk (bs := [(CLK ty aC tC pC hC kC sC), (CLK ty aE tE pE hE kE sE)]) (bsc := [(CLK ty aC tC pC hC kC sC), (CLK ty aE tE pE hE kE sE)]) (bsr := []) [0, 1] [] 2 rfl (by decide +kernel) rfl rfl) rfl hl.1 rfl (Nat.le_of_ble_eq_true rfl) dL_digits_28 ⟨Nat.le_of_ble_eq_true rfl, Nat.le_of_ble_eq_true rfl⟩ (fun r_4 u_3 h_5 H locs hP hD hS => ?_)
      have h_r_4 : r_4 = 1 := h_5
      subst h_r_4
      have hP : va_P D vwCl (fl [(CLK ty aC ((tC.1 + 1), (upd tC.2 tC.1 (nI (48 + (n9 / 100 % 10))))) pC hC kC sC), (CLK ty aE ((tE.1 + 1), (upd tE.2 tE.1 (nI (48 + (n9 / 100 % 10))))) pE hE kE sE)]) H := hP
      have hD : va_D A (fl [(CLK ty aC ((tC.1 + 1), (upd tC.2 tC.1 (nI (48 + (n9 / 100 % 10))))) pC hC kC sC), (CLK ty aE ((tE.1 + 1), (upd tE.2 tE.1 (nI (48 + (n9 / 100 % 10))))) pE hE kE sE)]) := hD
      refine lv_if_eq (tgt := 38) hx hb dL_digits_31 (by decide) (fun c_6 => ?_) (fun c_6 => ?_)
      · exact absurd c_6 (by decide)
      · skip
        refine lv_iconst (v := 1) hx hb dL_digits_34 (by decide) ?_
        refine lv_goto (tgt := 39) hx hb dL_digits_35 (by decide) ?_
        refine lv_istore (lv' := [(4, .int 1), (5, .int 100), (0, .ref (aC.1 0)), (1, .ref (aE.1 0)), (2, .int (nI n9)), (3, .int 100)]) hx hb dL_digits_39 hl (by decide) rfl (fun ls hl => ?_)
        refine lv_iload hx hb dL_digits_41 (lv_at hl 1 rfl) ?_
        refine lv_bipush (v := 10) hx hb dL_digits_43 (by decide) ?_
        refine k_idiv (v := 10) hx hb dL_digits_45 (by decide) (by decide) ?_
        refine lv_istore (lv' := [(5, .int 10), (4, .int 1), (0, .ref (aC.1 0)), (1, .ref (aE.1 0)), (2, .int (nI n9)), (3, .int 100)]) hx hb dL_digits_46 hl (by decide) rfl (fun ls hl => ?_)
        refine lv_goto (tgt := 6) hx hb dL_digits_48 (by decide) ?_
        refine lv_iload hx hb dL_digits_6 (lv_at hl 0 rfl) ?_
        refine lv_if_le (tgt := 51) hx hb dL_digits_8 (by decide) (fun c_7 => ?_) (fun c_7 => ?_)
        · exact absurd c_7 (by decide)
        · skip
          refine lv_iload hx hb dL_digits_11 (lv_at hl 1 rfl) ?_
          refine lv_if_eq (tgt := 38) hx hb dL_digits_13 (by decide) (fun c_8 => ?_) (fun c_8 => ?_)
          · exact absurd c_8 (by decide)
          · skip
            refine lv_aload_n hx hb dL_digits_16 rfl (lv_at hl 2 rfl) ?_
            refine lv_aload_n hx hb dL_digits_17 rfl (lv_at hl 3 rfl) ?_
            refine lv_bipush (v := 48) hx hb dL_digits_18 (by decide) ?_
            refine lv_iload_n hx hb dL_digits_20 rfl (lv_at hl 4 rfl) ?_
            refine lv_iload hx hb dL_digits_21 (lv_at hl 0 rfl) ?_
            refine k_idiv (v := (nI (n9 / 10))) hx hb dL_digits_23 (by decide) (pk_div (a := n9) (d := 10) (by omega) (by decide) (by decide)) ?_
            refine lv_bipush (v := 10) hx hb dL_digits_24 (by decide) ?_
            refine k_irem (v := (nI (n9 / 10 % 10))) hx hb dL_digits_26 (by decide) (pk_rem (a := n9 / 10) (d := 10) (by omega) (by decide) (by decide)) ?_
            refine k_iadd (v := (nI (48 + (n9 / 10 % 10)))) hx hb dL_digits_27 (nI_add 48 (n9 / 10 % 10)) ?_
            refine cSi (As := [.ref (aC.1 0), .ref (aE.1 0), .int (nI (48 + (n9 / 10 % 10)))]) (rest := []) ⟨hx, hb, hml, hown, hts⟩ (k_put l D ty (nI (48 + (n9 / 10 % 10))) aC ((tC.1 + 1), (upd tC.2 tC.1 (nI (48 + (n9 / 100 % 10))))) pC hC kC sC aE ((tE.1 + 1), (upd tE.2 tE.1 (nI (48 + (n9 / 100 % 10))))) pE hE kE sE hst ((inR0 (n := 48 + (n9 / 10 % 10)) (h := 255) (by omega) (by decide))) ((by omega)) ((by omega))) (va_cwS 3 hts gL_digits_L_put rfl rfl rfl (by decide +kernel) ⟨Nat.le_of_ble_eq_true rfl, Nat.le_of_ble_eq_true rfl⟩) hK hX hP hD hS hA (pk (bs := [(CLK ty aC ((tC.1 + 1), (upd tC.2 tC.1 (nI (48 + (n9 / 100 % 10))))) pC hC kC sC), (CLK ty aE ((tE.1 + 1), (upd tE.2 tE.1 (nI (48 + (n9 / 100 % 10))))) pE hE kE sE)]) (bsc := [(CLK ty aC ((tC.1 + 1), (upd tC.2 tC.1 (nI (48 + (n9 / 100 % 10))))) pC hC kC sC), (CLK ty aE ((tE.1 + 1), (upd tE.2 tE.1 (nI (48 + (n9 / 100 % 10))))) pE hE kE sE)]) (bsr := []) [0, 1] [] 2 rfl (by decide +kernel) rfl rfl) rfl hl.1 rfl (Nat.le_of_ble_eq_true rfl) dL_digits_28 ⟨Nat.le_of_ble_eq_true rfl, Nat.le_of_ble_eq_true rfl⟩ (fun r_10 u_9 h_11 H locs hP hD hS => ?_)
            have h_r_10 : r_10 = 1 := h_11
            subst h_r_10
            have hP : va_P D vwCl (fl [(CLK ty aC (((tC.1 + 1) + 1), (upd (upd tC.2 tC.1 (nI (48 + (n9 / 100 % 10)))) (tC.1 + 1) (nI (48 + (n9 / 10 % 10))))) pC hC kC sC), (CLK ty aE (((tE.1 + 1) + 1), (upd (upd tE.2 tE.1 (nI (48 + (n9 / 100 % 10)))) (tE.1 + 1) (nI (48 + (n9 / 10 % 10))))) pE hE kE sE)]) H := hP
            have hD : va_D A (fl [(CLK ty aC (((tC.1 + 1) + 1), (upd (upd tC.2 tC.1 (nI (48 + (n9 / 100 % 10)))) (tC.1 + 1) (nI (48 + (n9 / 10 % 10))))) pC hC kC sC), (CLK ty aE (((tE.1 + 1) + 1), (upd (upd tE.2 tE.1 (nI (48 + (n9 / 100 % 10)))) (tE.1 + 1) (nI (48 + (n9 / 10 % 10))))) pE hE kE sE)]) := hD
            refine lv_if_eq (tgt := 38) hx hb dL_digits_31 (by decide) (fun c_12 => ?_) (fun c_12 => ?_)
            · exact absurd c_12 (by decide)
            · skip
              refine lv_iconst (v := 1) hx hb dL_digits_34 (by decide) ?_
              refine lv_goto (tgt := 39) hx hb dL_digits_35 (by decide) ?_
              refine lv_istore (lv' := [(4, .int 1), (5, .int 10), (0, .ref (aC.1 0)), (1, .ref (aE.1 0)), (2, .int (nI n9)), (3, .int 100)]) hx hb dL_digits_39 hl (by decide) rfl (fun ls hl => ?_)
              refine lv_iload hx hb dL_digits_41 (lv_at hl 1 rfl) ?_
              refine lv_bipush (v := 10) hx hb dL_digits_43 (by decide) ?_
              refine k_idiv (v := 1) hx hb dL_digits_45 (by decide) (by decide) ?_
              refine lv_istore (lv' := [(5, .int 1), (4, .int 1), (0, .ref (aC.1 0)), (1, .ref (aE.1 0)), (2, .int (nI n9)), (3, .int 100)]) hx hb dL_digits_46 hl (by decide) rfl (fun ls hl => ?_)
              refine lv_goto (tgt := 6) hx hb dL_digits_48 (by decide) ?_
              refine lv_iload hx hb dL_digits_6 (lv_at hl 0 rfl) ?_
              refine lv_if_le (tgt := 51) hx hb dL_digits_8 (by decide) (fun c_13 => ?_) (fun c_13 => ?_)
              · exact absurd c_13 (by decide)
              · skip
                refine lv_iload hx hb dL_digits_11 (lv_at hl 1 rfl) ?_
                refine lv_if_eq (tgt := 38) hx hb dL_digits_13 (by decide) (fun c_14 => ?_) (fun c_14 => ?_)
                · exact absurd c_14 (by decide)
                · skip
                  refine lv_aload_n hx hb dL_digits_16 rfl (lv_at hl 2 rfl) ?_
                  refine lv_aload_n hx hb dL_digits_17 rfl (lv_at hl 3 rfl) ?_
                  refine lv_bipush (v := 48) hx hb dL_digits_18 (by decide) ?_
                  refine lv_iload_n hx hb dL_digits_20 rfl (lv_at hl 4 rfl) ?_
                  refine lv_iload hx hb dL_digits_21 (lv_at hl 0 rfl) ?_
                  refine k_idiv (v := (nI (n9 / 1))) hx hb dL_digits_23 (by decide) (pk_div (a := n9) (d := 1) (by omega) (by decide) (by decide)) ?_
                  refine lv_bipush (v := 10) hx hb dL_digits_24 (by decide) ?_
                  refine k_irem (v := (nI (n9 / 1 % 10))) hx hb dL_digits_26 (by decide) (pk_rem (a := n9 / 1) (d := 10) (by omega) (by decide) (by decide)) ?_
                  refine k_iadd (v := (nI (48 + (n9 / 1 % 10)))) hx hb dL_digits_27 (nI_add 48 (n9 / 1 % 10)) ?_
                  refine cSi (As := [.ref (aC.1 0), .ref (aE.1 0), .int (nI (48 + (n9 / 1 % 10)))]) (rest := []) ⟨hx, hb, hml, hown, hts⟩ (k_put l D ty (nI (48 + (n9 / 1 % 10))) aC (((tC.1 + 1) + 1), (upd (upd tC.2 tC.1 (nI (48 + (n9 / 100 % 10)))) (tC.1 + 1) (nI (48 + (n9 / 10 % 10))))) pC hC kC sC aE (((tE.1 + 1) + 1), (upd (upd tE.2 tE.1 (nI (48 + (n9 / 100 % 10)))) (tE.1 + 1) (nI (48 + (n9 / 10 % 10))))) pE hE kE sE hst ((inR0 (n := 48 + (n9 / 1 % 10)) (h := 255) (by omega) (by decide))) ((by omega)) ((by omega))) (va_cwS 3 hts gL_digits_L_put rfl rfl rfl (by decide +kernel) ⟨Nat.le_of_ble_eq_true rfl, Nat.le_of_ble_eq_true rfl⟩) hK hX hP hD hS hA (pk (bs := [(CLK ty aC (((tC.1 + 1) + 1), (upd (upd tC.2 tC.1 (nI (48 + (n9 / 100 % 10)))) (tC.1 + 1) (nI (48 + (n9 / 10 % 10))))) pC hC kC sC), (CLK ty aE (((tE.1 + 1) + 1), (upd (upd tE.2 tE.1 (nI (48 + (n9 / 100 % 10)))) (tE.1 + 1) (nI (48 + (n9 / 10 % 10))))) pE hE kE sE)]) (bsc := [(CLK ty aC (((tC.1 + 1) + 1), (upd (upd tC.2 tC.1 (nI (48 + (n9 / 100 % 10)))) (tC.1 + 1) (nI (48 + (n9 / 10 % 10))))) pC hC kC sC), (CLK ty aE (((tE.1 + 1) + 1), (upd (upd tE.2 tE.1 (nI (48 + (n9 / 100 % 10)))) (tE.1 + 1) (nI (48 + (n9 / 10 % 10))))) pE hE kE sE)]) (bsr := []) [0, 1] [] 2 rfl (by decide +kernel) rfl rfl) rfl hl.1 rfl (Nat.le_of_ble_eq_true rfl) dL_digits_28 ⟨Nat.le_of_ble_eq_true rfl, Nat.le_of_ble_eq_true rfl⟩ (fun r_16 u_15 h_17 H locs hP hD hS => ?_)
                  have h_r_16 : r_16 = 1 := h_17
                  subst h_r_16
                  have hP : va_P D vwCl (fl [(CLK ty aC ((((tC.1 + 1) + 1) + 1), (upd (upd (upd tC.2 tC.1 (nI (48 + (n9 / 100 % 10)))) (tC.1 + 1) (nI (48 + (n9 / 10 % 10)))) ((tC.1 + 1) + 1) (nI (48 + (n9 / 1 % 10))))) pC hC kC sC), (CLK ty aE ((((tE.1 + 1) + 1) + 1), (upd (upd (upd tE.2 tE.1 (nI (48 + (n9 / 100 % 10)))) (tE.1 + 1) (nI (48 + (n9 / 10 % 10)))) ((tE.1 + 1) + 1) (nI (48 + (n9 / 1 % 10))))) pE hE kE sE)]) H := hP
                  have hD : va_D A (fl [(CLK ty aC ((((tC.1 + 1) + 1) + 1), (upd (upd (upd tC.2 tC.1 (nI (48 + (n9 / 100 % 10)))) (tC.1 + 1) (nI (48 + (n9 / 10 % 10)))) ((tC.1 + 1) + 1) (nI (48 + (n9 / 1 % 10))))) pC hC kC sC), (CLK ty aE ((((tE.1 + 1) + 1) + 1), (upd (upd (upd tE.2 tE.1 (nI (48 + (n9 / 100 % 10)))) (tE.1 + 1) (nI (48 + (n9 / 10 % 10)))) ((tE.1 + 1) + 1) (nI (48 + (n9 / 1 % 10))))) pE hE kE sE)]) := hD
                  refine lv_if_eq (tgt := 38) hx hb dL_digits_31 (by decide) (fun c_18 => ?_) (fun c_18 => ?_)
                  · exact absurd c_18 (by decide)
                  · skip
                    refine lv_iconst (v := 1) hx hb dL_digits_34 (by decide) ?_
                    refine lv_goto (tgt := 39) hx hb dL_digits_35 (by decide) ?_
                    refine lv_istore (lv' := [(4, .int 1), (5, .int 1), (0, .ref (aC.1 0)), (1, .ref (aE.1 0)), (2, .int (nI n9)), (3, .int 100)]) hx hb dL_digits_39 hl (by decide) rfl (fun ls hl => ?_)
                    refine lv_iload hx hb dL_digits_41 (lv_at hl 1 rfl) ?_
                    refine lv_bipush (v := 10) hx hb dL_digits_43 (by decide) ?_
                    refine k_idiv (v := 0) hx hb dL_digits_45 (by decide) (by decide) ?_
                    refine lv_istore (lv' := [(5, .int 0), (4, .int 1), (0, .ref (aC.1 0)), (1, .ref (aE.1 0)), (2, .int (nI n9)), (3, .int 100)]) hx hb dL_digits_46 hl (by decide) rfl (fun ls hl => ?_)
                    refine lv_goto (tgt := 6) hx hb dL_digits_48 (by decide) ?_
                    refine lv_iload hx hb dL_digits_6 (lv_at hl 0 rfl) ?_
                    refine lv_if_le (tgt := 51) hx hb dL_digits_8 (by decide) (fun c_19 => ?_) (fun c_19 => ?_)
                    · skip
                      refine lv_iload hx hb dL_digits_51 (lv_at hl 1 rfl) ?_
                      subst hQg
                      have hP : va_P D vwCl (fl [(CLK ty aC ((((tC.1 + 1) + 1) + 1), (upd (upd (upd tC.2 tC.1 (nI (48 + n9 / 100 % 10))) (tC.1 + 1) (nI (48 + n9 / 10 % 10))) ((tC.1 + 1) + 1) (nI (48 + n9 / 1 % 10)))) pC hC kC sC), (CLK ty aE ((((tE.1 + 1) + 1) + 1), (upd (upd (upd tE.2 tE.1 (nI (48 + n9 / 100 % 10))) (tE.1 + 1) (nI (48 + n9 / 10 % 10))) ((tE.1 + 1) + 1) (nI (48 + n9 / 1 % 10)))) pE hE kE sE)]) H := hP
                      have hD : va_D A (fl [(CLK ty aC ((((tC.1 + 1) + 1) + 1), (upd (upd (upd tC.2 tC.1 (nI (48 + n9 / 100 % 10))) (tC.1 + 1) (nI (48 + n9 / 10 % 10))) ((tC.1 + 1) + 1) (nI (48 + n9 / 1 % 10)))) pC hC kC sC), (CLK ty aE ((((tE.1 + 1) + 1) + 1), (upd (upd (upd tE.2 tE.1 (nI (48 + n9 / 100 % 10))) (tE.1 + 1) (nI (48 + n9 / 10 % 10))) ((tE.1 + 1) + 1) (nI (48 + n9 / 1 % 10)))) pE hE kE sE)]) := hD
                      exact end_z (bs' := (fun (_ : Unit) => [(CLK ty aC ((((tC.1 + 1) + 1) + 1), (upd (upd (upd tC.2 tC.1 (nI (48 + n9 / 100 % 10))) (tC.1 + 1) (nI (48 + n9 / 10 % 10))) ((tC.1 + 1) + 1) (nI (48 + n9 / 1 % 10)))) pC hC kC sC), (CLK ty aE ((((tE.1 + 1) + 1) + 1), (upd (upd (upd tE.2 tE.1 (nI (48 + n9 / 100 % 10))) (tE.1 + 1) (nI (48 + n9 / 10 % 10))) ((tE.1 + 1) + 1) (nI (48 + n9 / 1 % 10)))) pE hE kE sE)])) () hx hb hr hlocks rfl hP hD hS rfl (Nat.le_of_ble_eq_true rfl) (Nat.le_of_ble_eq_true rfl) dL_digits_53
                    · exact absurd (by decide) c_19
