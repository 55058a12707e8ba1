set_option maxHeartbeats 4000000 in
set_option maxRecDepth 100000 in
theorem k_scripts (l : Launch) (D : va_G) (ty : Nat → ClassId) (B M : Int) (n9 : Nat) (aC : CA) (tC : CTx) (pC : CPg) (hC : CHs) (kC : CKs) (sC : CSc) (hst : l.stackTraces = false) (hG : SG B M pC) (hn9 : n9 < 2 ^ 31) : CTi l yL_scripts wsL_scripts ({ frames := 9, cells := 61, slots := 366, locals := 200 }) D ty [.ref (aC.1 0), .int (nI n9)] [(CLK ty aC tC pC hC kC sC)] (fun (RET : Int32) (sN : CSc) => RET = 1) (fun (sN : CSc) => [(CLK ty aC tC pC hC kC sN)]) := by
  refine CTi_of cL_scripts 8 (some .boolean) (by decide) rfl (Nat.le_of_ble_eq_true rfl) ?_
  intro p e s m args below meth c A hx hb hr hml hown hlocks hin hts hA hX hK hP hD ls hl
  have hown : s.vm.findClass RL = some m.cls := hown
  have hS : va_S A s.heap s.heap [] := va_S.rf
  have hl : lv_has ls 8 [(0, .ref (aC.1 0)), (1, .int (nI n9))] := hl
  generalize hQg : MQ below (va_Qi (fun (RET : Int32) (sN : CSc) => RET = 1) (PostW D (fun (sN : CSc) => [(CLK ty aC tC pC hC kC sN)]) A) A) args s 61 366 A = Qg
  obtain ⟨d9, hd9, hd9e⟩ := dom_n pC.1
  obtain ⟨v9, hv9, hv9e⟩ := reg_n hG (k := n9 % 8) (by omega)
  refine lv_aload_n hx hb dL_scripts_0 rfl (lv_at hl 0 rfl) ?_
  refine lv_bipush (v := 9) hx hb dL_scripts_1 (by decide) ?_
  refine cSWi (As := [.ref (aC.1 0), .int 9]) (rest := []) ⟨hx, hb, hml, hown, hts⟩ (k_about l D ty 9 aC tC pC hC kC sC hst ((inR_d (by decide +kernel)))) (vx_cwSW 2 hts gL_scripts_L_tryAbout rfl rfl rfl (by decide +kernel) ⟨Nat.le_of_ble_eq_true rfl, Nat.le_of_ble_eq_true rfl⟩) hK hX hP hD hS hA (pk (bs := [(CLK ty aC tC pC hC kC sC)]) (bsc := [(CLK ty aC tC pC hC kC sC)]) (bsr := []) [0] [] 1 rfl (by decide +kernel) rfl rfl) rfl hl.1 rfl (Nat.le_of_ble_eq_true rfl) dL_scripts_3 ⟨Nat.le_of_ble_eq_true rfl, Nat.le_of_ble_eq_true rfl⟩ (fun r_2 u_1 h_3 H locs hP hD hS => ?_)
  have h_r_2 : (nI d9) = r_2 := (h_3.trans ((tell_9 _).trans hd9e)).symm
  subst h_r_2
  have hP : va_P D vwCl (fl [(CLK ty aC tC pC hC kC sC)]) H := hP
  have hD : va_D A (fl [(CLK ty aC tC pC hC kC sC)]) := hD
  refine lv_istore_n (lv' := [(2, .int (nI d9)), (0, .ref (aC.1 0)), (1, .int (nI n9))]) hx hb dL_scripts_6 rfl hl (by decide) rfl (fun ls hl => ?_)
  refine lv_aload_n hx hb dL_scripts_7 rfl (lv_at hl 1 rfl) ?_
  refine lv_iconst (v := 5) hx hb dL_scripts_8 (by decide) ?_
  refine cSWi (As := [.ref (aC.1 0), .int 5]) (rest := []) ⟨hx, hb, hml, hown, hts⟩ (k_about l D ty 5 aC tC pC hC kC sC hst ((inR_d (by decide +kernel)))) (vx_cwSW 2 hts gL_scripts_L_tryAbout rfl rfl rfl (by decide +kernel) ⟨Nat.le_of_ble_eq_true rfl, Nat.le_of_ble_eq_true rfl⟩) hK hX hP hD hS hA (pk (bs := [(CLK ty aC tC pC hC kC sC)]) (bsc := [(CLK ty aC tC pC hC kC sC)]) (bsr := []) [0] [] 1 rfl (by decide +kernel) rfl rfl) rfl hl.1 rfl (Nat.le_of_ble_eq_true rfl) dL_scripts_9 ⟨Nat.le_of_ble_eq_true rfl, Nat.le_of_ble_eq_true rfl⟩ (fun r_5 u_4 h_6 H locs hP hD hS => ?_)
  have h_r_5 : poff pC.1 = r_5 := (h_6.trans (tell_5 _)).symm
  subst h_r_5
  have hP : va_P D vwCl (fl [(CLK ty aC tC pC hC kC sC)]) H := hP
  have hD : va_D A (fl [(CLK ty aC tC pC hC kC sC)]) := hD
  refine lv_istore_n (lv' := [(3, .int (poff pC.1)), (2, .int (nI d9)), (0, .ref (aC.1 0)), (1, .int (nI n9))]) hx hb dL_scripts_12 rfl hl (by decide) rfl (fun ls hl => ?_)
  refine lv_iload_n hx hb dL_scripts_13 rfl (lv_at hl 3 rfl) ?_
  refine lv_bipush (v := 8) hx hb dL_scripts_14 (by decide) ?_
  refine k_irem (v := (nI (n9 % 8))) hx hb dL_scripts_16 (by decide) (pk_rem (a := n9) (d := 8) (by omega) (by decide) (by decide)) ?_
  refine lv_istore (lv' := [(4, .int (nI (n9 % 8))), (3, .int (poff pC.1)), (2, .int (nI d9)), (0, .ref (aC.1 0)), (1, .int (nI n9))]) hx hb dL_scripts_17 hl (by decide) rfl (fun ls hl => ?_)
  refine lv_aload_n hx hb dL_scripts_19 rfl (lv_at hl 3 rfl) ?_
  refine lv_iload hx hb dL_scripts_20 (lv_at hl 0 rfl) ?_
  refine cSWi (As := [.ref (aC.1 0), .int (nI (n9 % 8))]) (rest := []) ⟨hx, hb, hml, hown, hts⟩ (k_register l D ty (nI (n9 % 8)) aC tC pC hC kC sC hst ((inI0 (n := (n9 % 8)) (h := 8) (by omega) (by decide)))) (vx_cwSW 2 hts gL_scripts_L_tryRegister rfl rfl rfl (by decide +kernel) ⟨Nat.le_of_ble_eq_true rfl, Nat.le_of_ble_eq_true rfl⟩) hK hX hP hD hS hA (pk (bs := [(CLK ty aC tC pC hC kC sC)]) (bsc := [(CLK ty aC tC pC hC kC sC)]) (bsr := []) [0] [] 1 rfl (by decide +kernel) rfl rfl) rfl hl.1 rfl (Nat.le_of_ble_eq_true rfl) dL_scripts_22 ⟨Nat.le_of_ble_eq_true rfl, Nat.le_of_ble_eq_true rfl⟩ (fun r_8 u_7 h_9 H locs hP hD hS => ?_)
  have h_r_8 : (nI v9) = r_8 := (h_9.trans (by rw [nI_clamp (by omega)]; exact hv9e)).symm
  subst h_r_8
  have hP : va_P D vwCl (fl [(CLK ty aC tC pC hC kC sC)]) H := hP
  have hD : va_D A (fl [(CLK ty aC tC pC hC kC sC)]) := hD
  refine lv_istore (lv' := [(5, .int (nI v9)), (4, .int (nI (n9 % 8))), (3, .int (poff pC.1)), (2, .int (nI d9)), (0, .ref (aC.1 0)), (1, .int (nI n9))]) hx hb dL_scripts_25 hl (by decide) rfl (fun ls hl => ?_)
  refine lv_aload_n hx hb dL_scripts_27 rfl (lv_at hl 4 rfl) ?_
  refine lv_iload_n hx hb dL_scripts_28 rfl (lv_at hl 5 rfl) ?_
  refine lv_i2l (v := (Int32.toInt64 (nI n9))) hx hb dL_scripts_29 rfl ?_
  refine lv_ldc2 hx hb hown (hts (Cond.constantLong RL 241 (181)) (List.mem_of_getElem? (i := 1) rfl)) dL_scripts_30 ?_
  refine lv_lmul hx hb dL_scripts_33 ?_
  refine lv_bipush (v := 12) hx hb dL_scripts_34 (by decide) ?_
  refine cSWi (As := [.ref (aC.1 0), .long ((Int32.toInt64 (nI n9)) * 181), .int 12]) (rest := []) ⟨hx, hb, hml, hown, hts⟩ (k_simulate l D ty ((Int32.toInt64 (nI n9)) * 181) 12 aC tC pC hC kC sC hst ((by omega)) ((by omega)) ((SG_Pw (P := pC) hG))) (vx_cwSW 3 hts gL_scripts_L_trySimulate rfl rfl rfl (by decide +kernel) ⟨Nat.le_of_ble_eq_true rfl, Nat.le_of_ble_eq_true rfl⟩) hK hX hP hD hS hA (pk (bs := [(CLK ty aC tC pC hC kC sC)]) (bsc := [(CLK ty aC tC pC hC kC sC)]) (bsr := []) [0] [] 1 rfl (by decide +kernel) rfl rfl) rfl hl.1 rfl (Nat.le_of_ble_eq_true rfl) dL_scripts_36 ⟨Nat.le_of_ble_eq_true rfl, Nat.le_of_ble_eq_true rfl⟩ (fun r_11 u_10 h_12 H locs hP hD hS => ?_)
  have h_r_11 : (100 * (simR simK simN 12 ((Int32.toInt64 (nI n9)) * 181) pC.1) 7 + 10 * pdom (simR simK simN 12 ((Int32.toInt64 (nI n9)) * 181) pC.1) + (simR simK simN 12 ((Int32.toInt64 (nI n9)) * 181) pC.1) 11) = r_11 := h_12.symm
  subst h_r_11
  have hP : va_P D vwCl (fl [(CLK ty aC tC pC hC kC u_10)]) H := hP
  have hD : va_D A (fl [(CLK ty aC tC pC hC kC u_10)]) := hD
  refine lv_istore (lv' := [(6, .int (100 * (simR simK simN 12 ((Int32.toInt64 (nI n9)) * 181) pC.1) 7 + 10 * pdom (simR simK simN 12 ((Int32.toInt64 (nI n9)) * 181) pC.1) + (simR simK simN 12 ((Int32.toInt64 (nI n9)) * 181) pC.1) 11)), (5, .int (nI v9)), (4, .int (nI (n9 % 8))), (3, .int (poff pC.1)), (2, .int (nI d9)), (0, .ref (aC.1 0)), (1, .int (nI n9))]) hx hb dL_scripts_39 hl (by decide) rfl (fun ls hl => ?_)
  refine lv_aload_n hx hb dL_scripts_41 rfl (lv_at hl 5 rfl) ?_
  refine lv_iconst (v := 1) hx hb dL_scripts_42 (by decide) ?_
  refine lv_ldc2 hx hb hown (hts (Cond.constantLong RL 243 (70000)) (List.mem_of_getElem? (i := 2) rfl)) dL_scripts_43 ?_
  refine lv_iload_n hx hb dL_scripts_46 rfl (lv_at hl 4 rfl) ?_
  refine lv_i2l (v := (Int32.toInt64 (nI d9))) hx hb dL_scripts_47 rfl ?_
  refine k_ladd (v := (70000 + (Int32.toInt64 (nI d9)))) hx hb dL_scripts_48 rfl ?_
  refine W.eq (g2 := F0 m 49 ls [.long (lN (70000 + d9)), .int 1, .ref (aC.1 0)]) (by rw [show (70000 + (Int32.toInt64 (nI d9))) = (lN (70000 + d9)) from (by rw [i2l_N (by omega)]; exact lN_add 70000 d9)]) ?_
  refine cSWi (As := [.ref (aC.1 0), .int 1, .long (lN (70000 + d9))]) (rest := []) ⟨hx, hb, hml, hown, hts⟩ (k_runScript1 l D ty (70000 + d9) aC tC pC hC kC u_10 hst ((by omega)) ((SG_Pw (P := pC) hG)) ((by omega))) (vx_cwSW 3 hts gL_scripts_L_tryScript rfl rfl rfl (by decide +kernel) ⟨Nat.le_of_ble_eq_true rfl, Nat.le_of_ble_eq_true rfl⟩) hK hX hP hD hS hA (pk (bs := [(CLK ty aC tC pC hC kC u_10)]) (bsc := [(CLK ty aC tC pC hC kC u_10)]) (bsr := []) [0] [] 1 rfl (by decide +kernel) rfl rfl) rfl hl.1 rfl (Nat.le_of_ble_eq_true rfl) dL_scripts_49 ⟨Nat.le_of_ble_eq_true rfl, Nat.le_of_ble_eq_true rfl⟩ (fun r_15 u_14 h_16 H locs hP hD hS => ?_)
  have h_r_15 : (scV 0 [(70000 + d9) % 100000] pC.1) = r_15 := h_16.symm
  subst h_r_15
  have hP : va_P D vwCl (fl [(CLK ty aC tC pC hC kC u_14)]) H := hP
  have hD : va_D A (fl [(CLK ty aC tC pC hC kC u_14)]) := hD
  refine lv_ldc hx hb hown (hts (Cond.constant RL 138 (-99999999)) (List.mem_of_getElem? (i := 3) rfl)) dL_scripts_52 ?_
  refine lv_icmp_ne (tgt := 369) hx hb dL_scripts_54 (by decide) (fun c_18 => ?_) (fun c_18 => ?_)
  · first | exact absurd c_18 ((show (scV 0 [(70000 + d9) % 100000] pC.1) = (-99999999) from zc_dom hd9 hd9e)) | exact absurd ((show (scV 0 [(70000 + d9) % 100000] pC.1) = (-99999999) from zc_dom hd9 hd9e)) c_18
  · skip
    refine lv_aload_n hx hb dL_scripts_57 rfl (lv_at hl 5 rfl) ?_
    refine lv_iconst (v := 1) hx hb dL_scripts_58 (by decide) ?_
    refine lv_ldc2 hx hb hown (hts (Cond.constantLong RL 245 (70004)) (List.mem_of_getElem? (i := 4) rfl)) dL_scripts_59 ?_
    refine cSWi (As := [.ref (aC.1 0), .int 1, .long 70004]) (rest := []) ⟨hx, hb, hml, hown, hts⟩ (k_runScript1 l D ty 70004 aC tC pC hC kC u_14 hst ((by omega)) ((SG_Pw (P := pC) hG)) ((by omega))) (vx_cwSW 3 hts gL_scripts_L_tryScript rfl rfl rfl (by decide +kernel) ⟨Nat.le_of_ble_eq_true rfl, Nat.le_of_ble_eq_true rfl⟩) hK hX hP hD hS hA (pk (bs := [(CLK ty aC tC pC hC kC u_14)]) (bsc := [(CLK ty aC tC pC hC kC u_14)]) (bsr := []) [0] [] 1 rfl (by decide +kernel) rfl rfl) rfl hl.1 rfl (Nat.le_of_ble_eq_true rfl) dL_scripts_62 ⟨Nat.le_of_ble_eq_true rfl, Nat.le_of_ble_eq_true rfl⟩ (fun r_20 u_19 h_21 H locs hP hD hS => ?_)
    have h_r_20 : (scV 0 [70004 % 100000] pC.1) = r_20 := h_21.symm
    subst h_r_20
    have hP : va_P D vwCl (fl [(CLK ty aC tC pC hC kC u_19)]) H := hP
    have hD : va_D A (fl [(CLK ty aC tC pC hC kC u_19)]) := hD
    refine lv_if_ne (tgt := 369) hx hb dL_scripts_65 (by decide) (fun c_23 => ?_) (fun c_23 => ?_)
    · first | exact absurd c_23 ((show (scV 0 [70004 % 100000] pC.1) = 0 from zc_dom4 hd9 hd9e)) | exact absurd ((show (scV 0 [70004 % 100000] pC.1) = 0 from zc_dom4 hd9 hd9e)) c_23
    · skip
      refine lv_aload_n hx hb dL_scripts_68 rfl (lv_at hl 5 rfl) ?_
      refine lv_iconst (v := 1) hx hb dL_scripts_69 (by decide) ?_
      refine lv_ldc2 hx hb hown (hts (Cond.constantLong RL 247 (80000)) (List.mem_of_getElem? (i := 5) rfl)) dL_scripts_70 ?_
      refine lv_ldc2 hx hb hown (hts (Cond.constantLong RL 249 (1000)) (List.mem_of_getElem? (i := 6) rfl)) dL_scripts_73 ?_
      refine lv_iload hx hb dL_scripts_76 (lv_at hl 2 rfl) ?_
      refine lv_i2l (v := (Int32.toInt64 (nI (n9 % 8)))) hx hb dL_scripts_78 rfl ?_
      refine lv_lmul hx hb dL_scripts_79 ?_
      refine k_ladd (v := (80000 + (1000 * (Int32.toInt64 (nI (n9 % 8)))))) hx hb dL_scripts_80 rfl ?_
      refine lv_iload hx hb dL_scripts_81 (lv_at hl 1 rfl) ?_
      refine lv_i2l (v := (Int32.toInt64 (nI v9))) hx hb dL_scripts_83 rfl ?_
      refine k_ladd (v := ((80000 + (1000 * (Int32.toInt64 (nI (n9 % 8))))) + (Int32.toInt64 (nI v9)))) hx hb dL_scripts_84 rfl ?_
      refine W.eq (g2 := F0 m 85 ls [.long (lN (80000 + 1000 * (n9 % 8) + v9)), .int 1, .ref (aC.1 0)]) (by rw [show ((80000 + (1000 * (Int32.toInt64 (nI (n9 % 8))))) + (Int32.toInt64 (nI v9))) = (lN (80000 + 1000 * (n9 % 8) + v9)) from (by rw [i2l_N (n := n9 % 8) (by omega), i2l_N (n := v9) (by omega)]; show lN 80000 + lN 1000 * lN (n9 % 8) + lN v9 = _; rw [lN_mul, lN_add, lN_add])]) ?_
      refine cSWi (As := [.ref (aC.1 0), .int 1, .long (lN (80000 + 1000 * (n9 % 8) + v9))]) (rest := []) ⟨hx, hb, hml, hown, hts⟩ (k_runScript1 l D ty (80000 + 1000 * (n9 % 8) + v9) aC tC pC hC kC u_19 hst ((by omega)) ((SG_Pw (P := pC) hG)) ((by omega))) (vx_cwSW 3 hts gL_scripts_L_tryScript rfl rfl rfl (by decide +kernel) ⟨Nat.le_of_ble_eq_true rfl, Nat.le_of_ble_eq_true rfl⟩) hK hX hP hD hS hA (pk (bs := [(CLK ty aC tC pC hC kC u_19)]) (bsc := [(CLK ty aC tC pC hC kC u_19)]) (bsr := []) [0] [] 1 rfl (by decide +kernel) rfl rfl) rfl hl.1 rfl (Nat.le_of_ble_eq_true rfl) dL_scripts_85 ⟨Nat.le_of_ble_eq_true rfl, Nat.le_of_ble_eq_true rfl⟩ (fun r_25 u_24 h_26 H locs hP hD hS => ?_)
      have h_r_25 : (scV 0 [(80000 + 1000 * (n9 % 8) + v9) % 100000] pC.1) = r_25 := h_26.symm
      subst h_r_25
      have hP : va_P D vwCl (fl [(CLK ty aC tC pC hC kC u_24)]) H := hP
      have hD : va_D A (fl [(CLK ty aC tC pC hC kC u_24)]) := hD
      refine lv_ldc hx hb hown (hts (Cond.constant RL 138 (-99999999)) (List.mem_of_getElem? (i := 3) rfl)) dL_scripts_88 ?_
      refine lv_icmp_ne (tgt := 369) hx hb dL_scripts_90 (by decide) (fun c_28 => ?_) (fun c_28 => ?_)
      · first | exact absurd c_28 ((show (scV 0 [(80000 + 1000 * (n9 % 8) + v9) % 100000] pC.1) = (-99999999) from zc_reg (by omega) hv9 hv9e)) | exact absurd ((show (scV 0 [(80000 + 1000 * (n9 % 8) + v9) % 100000] pC.1) = (-99999999) from zc_reg (by omega) hv9 hv9e)) c_28
      · skip
        refine lv_aload_n hx hb dL_scripts_93 rfl (lv_at hl 5 rfl) ?_
        refine lv_iconst (v := 1) hx hb dL_scripts_94 (by decide) ?_
        refine lv_ldc2 hx hb hown (hts (Cond.constantLong RL 247 (80000)) (List.mem_of_getElem? (i := 5) rfl)) dL_scripts_95 ?_
        refine lv_ldc2 hx hb hown (hts (Cond.constantLong RL 249 (1000)) (List.mem_of_getElem? (i := 6) rfl)) dL_scripts_98 ?_
        refine lv_iload hx hb dL_scripts_101 (lv_at hl 2 rfl) ?_
        refine lv_i2l (v := (Int32.toInt64 (nI (n9 % 8)))) hx hb dL_scripts_103 rfl ?_
        refine lv_lmul hx hb dL_scripts_104 ?_
        refine k_ladd (v := (80000 + (1000 * (Int32.toInt64 (nI (n9 % 8)))))) hx hb dL_scripts_105 rfl ?_
        refine lv_iload hx hb dL_scripts_106 (lv_at hl 1 rfl) ?_
        refine lv_iconst (v := 1) hx hb dL_scripts_108 (by decide) ?_
        refine k_iadd (v := (nI (v9 + 1))) hx hb dL_scripts_109 (nI_add (v9) (1)) ?_
        refine lv_sipush (v := 256) hx hb dL_scripts_110 (by decide) ?_
        refine k_irem (v := (nI ((v9 + 1) % 256))) hx hb dL_scripts_113 (by decide) (pk_rem (a := (v9 + 1)) (d := 256) (by omega) (by decide) (by decide)) ?_
        refine lv_i2l (v := (Int32.toInt64 (nI ((v9 + 1) % 256)))) hx hb dL_scripts_114 rfl ?_
        refine k_ladd (v := ((80000 + (1000 * (Int32.toInt64 (nI (n9 % 8))))) + (Int32.toInt64 (nI ((v9 + 1) % 256))))) hx hb dL_scripts_115 rfl ?_
        refine W.eq (g2 := F0 m 116 ls [.long (lN (80000 + 1000 * (n9 % 8) + (v9 + 1) % 256)), .int 1, .ref (aC.1 0)]) (by rw [show ((80000 + (1000 * (Int32.toInt64 (nI (n9 % 8))))) + (Int32.toInt64 (nI ((v9 + 1) % 256)))) = (lN (80000 + 1000 * (n9 % 8) + (v9 + 1) % 256)) from (by rw [i2l_N (n := n9 % 8) (by omega), i2l_N (n := (v9 + 1) % 256) (by omega)]; show lN 80000 + lN 1000 * lN (n9 % 8) + lN ((v9 + 1) % 256) = _; rw [lN_mul, lN_add, lN_add])]) ?_
        refine cSWi (As := [.ref (aC.1 0), .int 1, .long (lN (80000 + 1000 * (n9 % 8) + (v9 + 1) % 256))]) (rest := []) ⟨hx, hb, hml, hown, hts⟩ (k_runScript1 l D ty (80000 + 1000 * (n9 % 8) + (v9 + 1) % 256) aC tC pC hC kC u_24 hst ((by omega)) ((SG_Pw (P := pC) hG)) ((by omega))) (vx_cwSW 3 hts gL_scripts_L_tryScript rfl rfl rfl (by decide +kernel) ⟨Nat.le_of_ble_eq_true rfl, Nat.le_of_ble_eq_true rfl⟩) hK hX hP hD hS hA (pk (bs := [(CLK ty aC tC pC hC kC u_24)]) (bsc := [(CLK ty aC tC pC hC kC u_24)]) (bsr := []) [0] [] 1 rfl (by decide +kernel) rfl rfl) rfl hl.1 rfl (Nat.le_of_ble_eq_true rfl) dL_scripts_116 ⟨Nat.le_of_ble_eq_true rfl, Nat.le_of_ble_eq_true rfl⟩ (fun r_30 u_29 h_31 H locs hP hD hS => ?_)
        have h_r_30 : (scV 0 [(80000 + 1000 * (n9 % 8) + (v9 + 1) % 256) % 100000] pC.1) = r_30 := h_31.symm
        subst h_r_30
        have hP : va_P D vwCl (fl [(CLK ty aC tC pC hC kC u_29)]) H := hP
        have hD : va_D A (fl [(CLK ty aC tC pC hC kC u_29)]) := hD
        refine lv_if_ne (tgt := 369) hx hb dL_scripts_119 (by decide) (fun c_33 => ?_) (fun c_33 => ?_)
        · first | exact absurd c_33 ((show (scV 0 [(80000 + 1000 * (n9 % 8) + (v9 + 1) % 256) % 100000] pC.1) = 0 from zc_regn (by omega) hv9 hv9e)) | exact absurd ((show (scV 0 [(80000 + 1000 * (n9 % 8) + (v9 + 1) % 256) % 100000] pC.1) = 0 from zc_regn (by omega) hv9 hv9e)) c_33
        · skip
          refine lv_aload_n hx hb dL_scripts_122 rfl (lv_at hl 5 rfl) ?_
          refine lv_iconst (v := 1) hx hb dL_scripts_123 (by decide) ?_
          refine lv_ldc2 hx hb hown (hts (Cond.constantLong RL 251 (10000)) (List.mem_of_getElem? (i := 7) rfl)) dL_scripts_124 ?_
          refine cSWi (As := [.ref (aC.1 0), .int 1, .long 10000]) (rest := []) ⟨hx, hb, hml, hown, hts⟩ (k_runScript1 l D ty 10000 aC tC pC hC kC u_29 hst ((by omega)) ((SG_Pw (P := pC) hG)) ((by omega))) (vx_cwSW 3 hts gL_scripts_L_tryScript rfl rfl rfl (by decide +kernel) ⟨Nat.le_of_ble_eq_true rfl, Nat.le_of_ble_eq_true rfl⟩) hK hX hP hD hS hA (pk (bs := [(CLK ty aC tC pC hC kC u_29)]) (bsc := [(CLK ty aC tC pC hC kC u_29)]) (bsr := []) [0] [] 1 rfl (by decide +kernel) rfl rfl) rfl hl.1 rfl (Nat.le_of_ble_eq_true rfl) dL_scripts_127 ⟨Nat.le_of_ble_eq_true rfl, Nat.le_of_ble_eq_true rfl⟩ (fun r_35 u_34 h_36 H locs hP hD hS => ?_)
          have h_r_35 : (scV 0 [10000 % 100000] pC.1) = r_35 := h_36.symm
          subst h_r_35
          have hP : va_P D vwCl (fl [(CLK ty aC tC pC hC kC u_34)]) H := hP
          have hD : va_D A (fl [(CLK ty aC tC pC hC kC u_34)]) := hD
          refine lv_if_ne (tgt := 369) hx hb dL_scripts_130 (by decide) (fun c_38 => ?_) (fun c_38 => ?_)
          · first | exact absurd c_38 ((show (scV 0 [10000 % 100000] pC.1) = 0 from zc_p0)) | exact absurd ((show (scV 0 [10000 % 100000] pC.1) = 0 from zc_p0)) c_38
          · skip
            refine lv_aload_n hx hb dL_scripts_133 rfl (lv_at hl 5 rfl) ?_
            refine lv_iconst (v := 1) hx hb dL_scripts_134 (by decide) ?_
            refine lv_ldc2 hx hb hown (hts (Cond.constantLong RL 253 (11440)) (List.mem_of_getElem? (i := 8) rfl)) dL_scripts_135 ?_
            refine cSWi (As := [.ref (aC.1 0), .int 1, .long 11440]) (rest := []) ⟨hx, hb, hml, hown, hts⟩ (k_runScript1 l D ty 11440 aC tC pC hC kC u_34 hst ((by omega)) ((SG_Pw (P := pC) hG)) ((by omega))) (vx_cwSW 3 hts gL_scripts_L_tryScript rfl rfl rfl (by decide +kernel) ⟨Nat.le_of_ble_eq_true rfl, Nat.le_of_ble_eq_true rfl⟩) hK hX hP hD hS hA (pk (bs := [(CLK ty aC tC pC hC kC u_34)]) (bsc := [(CLK ty aC tC pC hC kC u_34)]) (bsr := []) [0] [] 1 rfl (by decide +kernel) rfl rfl) rfl hl.1 rfl (Nat.le_of_ble_eq_true rfl) dL_scripts_138 ⟨Nat.le_of_ble_eq_true rfl, Nat.le_of_ble_eq_true rfl⟩ (fun r_40 u_39 h_41 H locs hP hD hS => ?_)
            have h_r_40 : (scV 0 [11440 % 100000] pC.1) = r_40 := h_41.symm
            subst h_r_40
            have hP : va_P D vwCl (fl [(CLK ty aC tC pC hC kC u_39)]) H := hP
            have hD : va_D A (fl [(CLK ty aC tC pC hC kC u_39)]) := hD
            refine lv_ldc hx hb hown (hts (Cond.constant RL 138 (-99999999)) (List.mem_of_getElem? (i := 3) rfl)) dL_scripts_141 ?_
            refine lv_icmp_ne (tgt := 369) hx hb dL_scripts_143 (by decide) (fun c_43 => ?_) (fun c_43 => ?_)
            · first | exact absurd c_43 ((show (scV 0 [11440 % 100000] pC.1) = (-99999999) from zc_p1)) | exact absurd ((show (scV 0 [11440 % 100000] pC.1) = (-99999999) from zc_p1)) c_43
            · skip
              refine lv_aload_n hx hb dL_scripts_146 rfl (lv_at hl 5 rfl) ?_
              refine lv_iconst (v := 1) hx hb dL_scripts_147 (by decide) ?_
              refine lv_ldc2 hx hb hown (hts (Cond.constantLong RL 255 (11441)) (List.mem_of_getElem? (i := 9) rfl)) dL_scripts_148 ?_
              refine cSWi (As := [.ref (aC.1 0), .int 1, .long 11441]) (rest := []) ⟨hx, hb, hml, hown, hts⟩ (k_runScript1 l D ty 11441 aC tC pC hC kC u_39 hst ((by omega)) ((SG_Pw (P := pC) hG)) ((by omega))) (vx_cwSW 3 hts gL_scripts_L_tryScript rfl rfl rfl (by decide +kernel) ⟨Nat.le_of_ble_eq_true rfl, Nat.le_of_ble_eq_true rfl⟩) hK hX hP hD hS hA (pk (bs := [(CLK ty aC tC pC hC kC u_39)]) (bsc := [(CLK ty aC tC pC hC kC u_39)]) (bsr := []) [0] [] 1 rfl (by decide +kernel) rfl rfl) rfl hl.1 rfl (Nat.le_of_ble_eq_true rfl) dL_scripts_151 ⟨Nat.le_of_ble_eq_true rfl, Nat.le_of_ble_eq_true rfl⟩ (fun r_45 u_44 h_46 H locs hP hD hS => ?_)
              have h_r_45 : (scV 0 [11441 % 100000] pC.1) = r_45 := h_46.symm
              subst h_r_45
              have hP : va_P D vwCl (fl [(CLK ty aC tC pC hC kC u_44)]) H := hP
              have hD : va_D A (fl [(CLK ty aC tC pC hC kC u_44)]) := hD
              refine lv_if_ne (tgt := 369) hx hb dL_scripts_154 (by decide) (fun c_48 => ?_) (fun c_48 => ?_)
              · first | exact absurd c_48 ((show (scV 0 [11441 % 100000] pC.1) = 0 from zc_p2)) | exact absurd ((show (scV 0 [11441 % 100000] pC.1) = 0 from zc_p2)) c_48
              · skip
                refine lv_aload_n hx hb dL_scripts_157 rfl (lv_at hl 5 rfl) ?_
                refine lv_iconst (v := 1) hx hb dL_scripts_158 (by decide) ?_
                refine lv_ldc2 hx hb hown (hts (Cond.constantLong RL 257 (20010)) (List.mem_of_getElem? (i := 10) rfl)) dL_scripts_159 ?_
                refine cSWi (As := [.ref (aC.1 0), .int 1, .long 20010]) (rest := []) ⟨hx, hb, hml, hown, hts⟩ (k_runScript1 l D ty 20010 aC tC pC hC kC u_44 hst ((by omega)) ((SG_Pw (P := pC) hG)) ((by omega))) (vx_cwSW 3 hts gL_scripts_L_tryScript rfl rfl rfl (by decide +kernel) ⟨Nat.le_of_ble_eq_true rfl, Nat.le_of_ble_eq_true rfl⟩) hK hX hP hD hS hA (pk (bs := [(CLK ty aC tC pC hC kC u_44)]) (bsc := [(CLK ty aC tC pC hC kC u_44)]) (bsr := []) [0] [] 1 rfl (by decide +kernel) rfl rfl) rfl hl.1 rfl (Nat.le_of_ble_eq_true rfl) dL_scripts_162 ⟨Nat.le_of_ble_eq_true rfl, Nat.le_of_ble_eq_true rfl⟩ (fun r_50 u_49 h_51 H locs hP hD hS => ?_)
                have h_r_50 : (scV 0 [20010 % 100000] pC.1) = r_50 := h_51.symm
                subst h_r_50
                have hP : va_P D vwCl (fl [(CLK ty aC tC pC hC kC u_49)]) H := hP
                have hD : va_D A (fl [(CLK ty aC tC pC hC kC u_49)]) := hD
                refine lv_if_ne (tgt := 369) hx hb dL_scripts_165 (by decide) (fun c_53 => ?_) (fun c_53 => ?_)
                · first | exact absurd c_53 ((show (scV 0 [20010 % 100000] pC.1) = 0 from zc_l)) | exact absurd ((show (scV 0 [20010 % 100000] pC.1) = 0 from zc_l)) c_53
                · skip
                  refine lv_aload_n hx hb dL_scripts_168 rfl (lv_at hl 5 rfl) ?_
                  refine lv_iconst (v := 2) hx hb dL_scripts_169 (by decide) ?_
                  refine lv_ldc2 hx hb hown (hts (Cond.constantLong RL 259 (2000970000)) (List.mem_of_getElem? (i := 11) rfl)) dL_scripts_170 ?_
                  refine cSWi (As := [.ref (aC.1 0), .int 2, .long 2000970000]) (rest := []) ⟨hx, hb, hml, hown, hts⟩ (k_runScript2 l D ty 2000970000 aC tC pC hC kC u_49 hst ((by omega)) ((SG_Pw (P := pC) hG)) ((by omega))) (vx_cwSW 3 hts gL_scripts_L_tryScript rfl rfl rfl (by decide +kernel) ⟨Nat.le_of_ble_eq_true rfl, Nat.le_of_ble_eq_true rfl⟩) hK hX hP hD hS hA (pk (bs := [(CLK ty aC tC pC hC kC u_49)]) (bsc := [(CLK ty aC tC pC hC kC u_49)]) (bsr := []) [0] [] 1 rfl (by decide +kernel) rfl rfl) rfl hl.1 rfl (Nat.le_of_ble_eq_true rfl) dL_scripts_173 ⟨Nat.le_of_ble_eq_true rfl, Nat.le_of_ble_eq_true rfl⟩ (fun r_55 u_54 h_56 H locs hP hD hS => ?_)
                  have h_r_55 : (scV 0 [2000970000 / 100000 % 100000, 2000970000 % 100000] pC.1) = r_55 := h_56.symm
                  subst h_r_55
                  have hP : va_P D vwCl (fl [(CLK ty aC tC pC hC kC u_54)]) H := hP
                  have hD : va_D A (fl [(CLK ty aC tC pC hC kC u_54)]) := hD
                  refine lv_ldc hx hb hown (hts (Cond.constant RL 138 (-99999999)) (List.mem_of_getElem? (i := 3) rfl)) dL_scripts_176 ?_
                  refine lv_icmp_ne (tgt := 369) hx hb dL_scripts_178 (by decide) (fun c_58 => ?_) (fun c_58 => ?_)
                  · first | exact absurd c_58 ((show (scV 0 [2000970000 / 100000 % 100000, 2000970000 % 100000] pC.1) = (-99999999) from zc_2)) | exact absurd ((show (scV 0 [2000970000 / 100000 % 100000, 2000970000 % 100000] pC.1) = (-99999999) from zc_2)) c_58
                  · skip
                    refine lv_aload_n hx hb dL_scripts_181 rfl (lv_at hl 5 rfl) ?_
                    refine lv_iconst (v := 1) hx hb dL_scripts_182 (by decide) ?_
                    refine lv_ldc2 hx hb hown (hts (Cond.constantLong RL 261 (31500)) (List.mem_of_getElem? (i := 12) rfl)) dL_scripts_183 ?_
                    refine cSWi (As := [.ref (aC.1 0), .int 1, .long 31500]) (rest := []) ⟨hx, hb, hml, hown, hts⟩ (k_runScript1 l D ty 31500 aC tC pC hC kC u_54 hst ((by omega)) ((SG_Pw (P := pC) hG)) ((by omega))) (vx_cwSW 3 hts gL_scripts_L_tryScript rfl rfl rfl (by decide +kernel) ⟨Nat.le_of_ble_eq_true rfl, Nat.le_of_ble_eq_true rfl⟩) hK hX hP hD hS hA (pk (bs := [(CLK ty aC tC pC hC kC u_54)]) (bsc := [(CLK ty aC tC pC hC kC u_54)]) (bsr := []) [0] [] 1 rfl (by decide +kernel) rfl rfl) rfl hl.1 rfl (Nat.le_of_ble_eq_true rfl) dL_scripts_186 ⟨Nat.le_of_ble_eq_true rfl, Nat.le_of_ble_eq_true rfl⟩ (fun r_60 u_59 h_61 H locs hP hD hS => ?_)
                    have h_r_60 : (scV 0 [31500 % 100000] pC.1) = r_60 := h_61.symm
                    subst h_r_60
                    have hP : va_P D vwCl (fl [(CLK ty aC tC pC hC kC u_59)]) H := hP
                    have hD : va_D A (fl [(CLK ty aC tC pC hC kC u_59)]) := hD
                    have hJ202_62 : ∀ (H : Heap) (locs : List Loc), va_P D vwCl (fl [(CLK ty aC tC pC hC kC u_59)]) H → va_D A (fl [(CLK ty aC tC pC hC kC u_59)]) → va_S A s.heap H locs → ∀ ls : Array Slot, lv_has ls 8 [(6, .int (100 * (simR simK simN 12 ((Int32.toInt64 (nI n9)) * 181) pC.1) 7 + 10 * pdom (simR simK simN 12 ((Int32.toInt64 (nI n9)) * 181) pC.1) + (simR simK simN 12 ((Int32.toInt64 (nI n9)) * 181) pC.1) 11)), (5, .int (nI v9)), (4, .int (nI (n9 % 8))), (3, .int (poff pC.1)), (2, .int (nI d9)), (0, .ref (aC.1 0)), (1, .int (nI n9))] → W p l e ({ frames := 9, cells := 61, slots := 366, locals := 200 } : Room) s m args below meth c H locs 24 144 Qg (F0 m 202 ls []) := by
                      intro H locs hP hD hS ls hl
                      refine lv_aload_n hx hb dL_scripts_202 rfl (lv_at hl 5 rfl) ?_
                      refine lv_iconst (v := 1) hx hb dL_scripts_203 (by decide) ?_
                      refine lv_ldc2 hx hb hown (hts (Cond.constantLong RL 263 (30501)) (List.mem_of_getElem? (i := 13) rfl)) dL_scripts_204 ?_
                      refine cSWi (As := [.ref (aC.1 0), .int 1, .long 30501]) (rest := []) ⟨hx, hb, hml, hown, hts⟩ (k_runScript1 l D ty 30501 aC tC pC hC kC u_59 hst ((by omega)) ((SG_Pw (P := pC) hG)) ((by omega))) (vx_cwSW 3 hts gL_scripts_L_tryScript rfl rfl rfl (by decide +kernel) ⟨Nat.le_of_ble_eq_true rfl, Nat.le_of_ble_eq_true rfl⟩) hK hX hP hD hS hA (pk (bs := [(CLK ty aC tC pC hC kC u_59)]) (bsc := [(CLK ty aC tC pC hC kC u_59)]) (bsr := []) [0] [] 1 rfl (by decide +kernel) rfl rfl) rfl hl.1 rfl (Nat.le_of_ble_eq_true rfl) dL_scripts_207 ⟨Nat.le_of_ble_eq_true rfl, Nat.le_of_ble_eq_true rfl⟩ (fun r_65 u_64 h_66 H locs hP hD hS => ?_)
                      have h_r_65 : (scV 0 [30501 % 100000] pC.1) = r_65 := h_66.symm
                      subst h_r_65
                      have hP : va_P D vwCl (fl [(CLK ty aC tC pC hC kC u_64)]) H := hP
                      have hD : va_D A (fl [(CLK ty aC tC pC hC kC u_64)]) := hD
                      refine lv_if_ne (tgt := 369) hx hb dL_scripts_210 (by decide) (fun c_68 => ?_) (fun c_68 => ?_)
                      · first | exact absurd c_68 ((show (scV 0 [30501 % 100000] pC.1) = 0 from zc_c2)) | exact absurd ((show (scV 0 [30501 % 100000] pC.1) = 0 from zc_c2)) c_68
                      · skip
                        refine lv_aload_n hx hb dL_scripts_213 rfl (lv_at hl 5 rfl) ?_
                        refine lv_iconst (v := 1) hx hb dL_scripts_214 (by decide) ?_
                        refine lv_ldc2 hx hb hown (hts (Cond.constantLong RL 265 (32000)) (List.mem_of_getElem? (i := 14) rfl)) dL_scripts_215 ?_
                        refine cSWi (As := [.ref (aC.1 0), .int 1, .long 32000]) (rest := []) ⟨hx, hb, hml, hown, hts⟩ (k_runScript1 l D ty 32000 aC tC pC hC kC u_64 hst ((by omega)) ((SG_Pw (P := pC) hG)) ((by omega))) (vx_cwSW 3 hts gL_scripts_L_tryScript rfl rfl rfl (by decide +kernel) ⟨Nat.le_of_ble_eq_true rfl, Nat.le_of_ble_eq_true rfl⟩) hK hX hP hD hS hA (pk (bs := [(CLK ty aC tC pC hC kC u_64)]) (bsc := [(CLK ty aC tC pC hC kC u_64)]) (bsr := []) [0] [] 1 rfl (by decide +kernel) rfl rfl) rfl hl.1 rfl (Nat.le_of_ble_eq_true rfl) dL_scripts_218 ⟨Nat.le_of_ble_eq_true rfl, Nat.le_of_ble_eq_true rfl⟩ (fun r_70 u_69 h_71 H locs hP hD hS => ?_)
                        have h_r_70 : (scV 0 [32000 % 100000] pC.1) = r_70 := h_71.symm
                        subst h_r_70
                        have hP : va_P D vwCl (fl [(CLK ty aC tC pC hC kC u_69)]) H := hP
                        have hD : va_D A (fl [(CLK ty aC tC pC hC kC u_69)]) := hD
                        refine lv_if_ne (tgt := 369) hx hb dL_scripts_221 (by decide) (fun c_73 => ?_) (fun c_73 => ?_)
                        · first | exact absurd c_73 ((show (scV 0 [32000 % 100000] pC.1) = 0 from zc_c3)) | exact absurd ((show (scV 0 [32000 % 100000] pC.1) = 0 from zc_c3)) c_73
                        · skip
                          refine lv_aload_n hx hb dL_scripts_224 rfl (lv_at hl 5 rfl) ?_
                          refine lv_iconst (v := 1) hx hb dL_scripts_225 (by decide) ?_
                          refine lv_ldc2 hx hb hown (hts (Cond.constantLong RL 267 (40255)) (List.mem_of_getElem? (i := 15) rfl)) dL_scripts_226 ?_
                          refine lv_ldc2 hx hb hown (hts (Cond.constantLong RL 249 (1000)) (List.mem_of_getElem? (i := 6) rfl)) dL_scripts_229 ?_
                          refine lv_iload hx hb dL_scripts_232 (lv_at hl 2 rfl) ?_
                          refine lv_i2l (v := (Int32.toInt64 (nI (n9 % 8)))) hx hb dL_scripts_234 rfl ?_
                          refine lv_lmul hx hb dL_scripts_235 ?_
                          refine k_ladd (v := (40255 + (1000 * (Int32.toInt64 (nI (n9 % 8)))))) hx hb dL_scripts_236 rfl ?_
                          refine W.eq (g2 := F0 m 237 ls [.long (lN (40255 + 1000 * (n9 % 8))), .int 1, .ref (aC.1 0)]) (by rw [show (40255 + (1000 * (Int32.toInt64 (nI (n9 % 8))))) = (lN (40255 + 1000 * (n9 % 8))) from (by rw [i2l_N (n := n9 % 8) (by omega)]; show lN 40255 + lN 1000 * lN (n9 % 8) = _; rw [lN_mul, lN_add])]) ?_
                          refine cSWi (As := [.ref (aC.1 0), .int 1, .long (lN (40255 + 1000 * (n9 % 8)))]) (rest := []) ⟨hx, hb, hml, hown, hts⟩ (k_runScript1 l D ty (40255 + 1000 * (n9 % 8)) aC tC pC hC kC u_69 hst ((by omega)) ((SG_Pw (P := pC) hG)) ((by omega))) (vx_cwSW 3 hts gL_scripts_L_tryScript rfl rfl rfl (by decide +kernel) ⟨Nat.le_of_ble_eq_true rfl, Nat.le_of_ble_eq_true rfl⟩) hK hX hP hD hS hA (pk (bs := [(CLK ty aC tC pC hC kC u_69)]) (bsc := [(CLK ty aC tC pC hC kC u_69)]) (bsr := []) [0] [] 1 rfl (by decide +kernel) rfl rfl) rfl hl.1 rfl (Nat.le_of_ble_eq_true rfl) dL_scripts_237 ⟨Nat.le_of_ble_eq_true rfl, Nat.le_of_ble_eq_true rfl⟩ (fun r_75 u_74 h_76 H locs hP hD hS => ?_)
                          have h_r_75 : (scV 0 [(40255 + 1000 * (n9 % 8)) % 100000] pC.1) = r_75 := h_76.symm
                          subst h_r_75
                          have hP : va_P D vwCl (fl [(CLK ty aC tC pC hC kC u_74)]) H := hP
                          have hD : va_D A (fl [(CLK ty aC tC pC hC kC u_74)]) := hD
                          have hJ253_77 : ∀ (H : Heap) (locs : List Loc), va_P D vwCl (fl [(CLK ty aC tC pC hC kC u_74)]) H → va_D A (fl [(CLK ty aC tC pC hC kC u_74)]) → va_S A s.heap H locs → ∀ ls : Array Slot, lv_has ls 8 [(6, .int (100 * (simR simK simN 12 ((Int32.toInt64 (nI n9)) * 181) pC.1) 7 + 10 * pdom (simR simK simN 12 ((Int32.toInt64 (nI n9)) * 181) pC.1) + (simR simK simN 12 ((Int32.toInt64 (nI n9)) * 181) pC.1) 11)), (5, .int (nI v9)), (4, .int (nI (n9 % 8))), (3, .int (poff pC.1)), (2, .int (nI d9)), (0, .ref (aC.1 0)), (1, .int (nI n9))] → W p l e ({ frames := 9, cells := 61, slots := 366, locals := 200 } : Room) s m args below meth c H locs 30 180 Qg (F0 m 253 ls []) := by
                            intro H locs hP hD hS ls hl
                            refine lv_aload_n hx hb dL_scripts_253 rfl (lv_at hl 5 rfl) ?_
                            refine lv_iconst (v := 1) hx hb dL_scripts_254 (by decide) ?_
                            refine lv_ldc2 hx hb hown (hts (Cond.constantLong RL 269 (40256)) (List.mem_of_getElem? (i := 16) rfl)) dL_scripts_255 ?_
                            refine cSWi (As := [.ref (aC.1 0), .int 1, .long 40256]) (rest := []) ⟨hx, hb, hml, hown, hts⟩ (k_runScript1 l D ty 40256 aC tC pC hC kC u_74 hst ((by omega)) ((SG_Pw (P := pC) hG)) ((by omega))) (vx_cwSW 3 hts gL_scripts_L_tryScript rfl rfl rfl (by decide +kernel) ⟨Nat.le_of_ble_eq_true rfl, Nat.le_of_ble_eq_true rfl⟩) hK hX hP hD hS hA (pk (bs := [(CLK ty aC tC pC hC kC u_74)]) (bsc := [(CLK ty aC tC pC hC kC u_74)]) (bsr := []) [0] [] 1 rfl (by decide +kernel) rfl rfl) rfl hl.1 rfl (Nat.le_of_ble_eq_true rfl) dL_scripts_258 ⟨Nat.le_of_ble_eq_true rfl, Nat.le_of_ble_eq_true rfl⟩ (fun r_80 u_79 h_81 H locs hP hD hS => ?_)
                            have h_r_80 : (scV 0 [40256 % 100000] pC.1) = r_80 := h_81.symm
                            subst h_r_80
                            have hP : va_P D vwCl (fl [(CLK ty aC tC pC hC kC u_79)]) H := hP
                            have hD : va_D A (fl [(CLK ty aC tC pC hC kC u_79)]) := hD
                            refine lv_if_ne (tgt := 369) hx hb dL_scripts_261 (by decide) (fun c_83 => ?_) (fun c_83 => ?_)
                            · first | exact absurd c_83 ((show (scV 0 [40256 % 100000] pC.1) = 0 from zc_w2)) | exact absurd ((show (scV 0 [40256 % 100000] pC.1) = 0 from zc_w2)) c_83
                            · skip
                              refine lv_aload_n hx hb dL_scripts_264 rfl (lv_at hl 5 rfl) ?_
                              refine lv_iconst (v := 1) hx hb dL_scripts_265 (by decide) ?_
                              refine lv_ldc2 hx hb hown (hts (Cond.constantLong RL 271 (48000)) (List.mem_of_getElem? (i := 17) rfl)) dL_scripts_266 ?_
                              refine cSWi (As := [.ref (aC.1 0), .int 1, .long 48000]) (rest := []) ⟨hx, hb, hml, hown, hts⟩ (k_runScript1 l D ty 48000 aC tC pC hC kC u_79 hst ((by omega)) ((SG_Pw (P := pC) hG)) ((by omega))) (vx_cwSW 3 hts gL_scripts_L_tryScript rfl rfl rfl (by decide +kernel) ⟨Nat.le_of_ble_eq_true rfl, Nat.le_of_ble_eq_true rfl⟩) hK hX hP hD hS hA (pk (bs := [(CLK ty aC tC pC hC kC u_79)]) (bsc := [(CLK ty aC tC pC hC kC u_79)]) (bsr := []) [0] [] 1 rfl (by decide +kernel) rfl rfl) rfl hl.1 rfl (Nat.le_of_ble_eq_true rfl) dL_scripts_269 ⟨Nat.le_of_ble_eq_true rfl, Nat.le_of_ble_eq_true rfl⟩ (fun r_85 u_84 h_86 H locs hP hD hS => ?_)
                              have h_r_85 : (scV 0 [48000 % 100000] pC.1) = r_85 := h_86.symm
                              subst h_r_85
                              have hP : va_P D vwCl (fl [(CLK ty aC tC pC hC kC u_84)]) H := hP
                              have hD : va_D A (fl [(CLK ty aC tC pC hC kC u_84)]) := hD
                              refine lv_if_ne (tgt := 369) hx hb dL_scripts_272 (by decide) (fun c_88 => ?_) (fun c_88 => ?_)
                              · first | exact absurd c_88 ((show (scV 0 [48000 % 100000] pC.1) = 0 from zc_w3)) | exact absurd ((show (scV 0 [48000 % 100000] pC.1) = 0 from zc_w3)) c_88
                              · skip
                                refine lv_aload_n hx hb dL_scripts_275 rfl (lv_at hl 5 rfl) ?_
                                refine lv_iconst (v := 1) hx hb dL_scripts_276 (by decide) ?_
                                refine lv_ldc2 hx hb hown (hts (Cond.constantLong RL 273 (50002)) (List.mem_of_getElem? (i := 18) rfl)) dL_scripts_277 ?_
                                refine cSWi (As := [.ref (aC.1 0), .int 1, .long 50002]) (rest := []) ⟨hx, hb, hml, hown, hts⟩ (k_runScript1 l D ty 50002 aC tC pC hC kC u_84 hst ((by omega)) ((SG_Pw (P := pC) hG)) ((by omega))) (vx_cwSW 3 hts gL_scripts_L_tryScript rfl rfl rfl (by decide +kernel) ⟨Nat.le_of_ble_eq_true rfl, Nat.le_of_ble_eq_true rfl⟩) hK hX hP hD hS hA (pk (bs := [(CLK ty aC tC pC hC kC u_84)]) (bsc := [(CLK ty aC tC pC hC kC u_84)]) (bsr := []) [0] [] 1 rfl (by decide +kernel) rfl rfl) rfl hl.1 rfl (Nat.le_of_ble_eq_true rfl) dL_scripts_280 ⟨Nat.le_of_ble_eq_true rfl, Nat.le_of_ble_eq_true rfl⟩ (fun r_90 u_89 h_91 H locs hP hD hS => ?_)
                                have h_r_90 : (scV 0 [50002 % 100000] pC.1) = r_90 := h_91.symm
                                subst h_r_90
                                have hP : va_P D vwCl (fl [(CLK ty aC tC pC hC kC u_89)]) H := hP
                                have hD : va_D A (fl [(CLK ty aC tC pC hC kC u_89)]) := hD
                                refine lv_ldc hx hb hown (hts (Cond.constant RL 138 (-99999999)) (List.mem_of_getElem? (i := 3) rfl)) dL_scripts_283 ?_
                                refine lv_icmp_ne (tgt := 369) hx hb dL_scripts_285 (by decide) (fun c_93 => ?_) (fun c_93 => ?_)
                                · first | exact absurd c_93 ((show (scV 0 [50002 % 100000] pC.1) = (-99999999) from zc_t0)) | exact absurd ((show (scV 0 [50002 % 100000] pC.1) = (-99999999) from zc_t0)) c_93
                                · skip
                                  refine lv_aload_n hx hb dL_scripts_288 rfl (lv_at hl 5 rfl) ?_
                                  refine lv_iconst (v := 1) hx hb dL_scripts_289 (by decide) ?_
                                  refine lv_ldc2 hx hb hown (hts (Cond.constantLong RL 275 (50003)) (List.mem_of_getElem? (i := 19) rfl)) dL_scripts_290 ?_
                                  refine cSWi (As := [.ref (aC.1 0), .int 1, .long 50003]) (rest := []) ⟨hx, hb, hml, hown, hts⟩ (k_runScript1 l D ty 50003 aC tC pC hC kC u_89 hst ((by omega)) ((SG_Pw (P := pC) hG)) ((by omega))) (vx_cwSW 3 hts gL_scripts_L_tryScript rfl rfl rfl (by decide +kernel) ⟨Nat.le_of_ble_eq_true rfl, Nat.le_of_ble_eq_true rfl⟩) hK hX hP hD hS hA (pk (bs := [(CLK ty aC tC pC hC kC u_89)]) (bsc := [(CLK ty aC tC pC hC kC u_89)]) (bsr := []) [0] [] 1 rfl (by decide +kernel) rfl rfl) rfl hl.1 rfl (Nat.le_of_ble_eq_true rfl) dL_scripts_293 ⟨Nat.le_of_ble_eq_true rfl, Nat.le_of_ble_eq_true rfl⟩ (fun r_95 u_94 h_96 H locs hP hD hS => ?_)
                                  have h_r_95 : (scV 0 [50003 % 100000] pC.1) = r_95 := h_96.symm
                                  subst h_r_95
                                  have hP : va_P D vwCl (fl [(CLK ty aC tC pC hC kC u_94)]) H := hP
                                  have hD : va_D A (fl [(CLK ty aC tC pC hC kC u_94)]) := hD
                                  refine lv_if_ne (tgt := 369) hx hb dL_scripts_296 (by decide) (fun c_98 => ?_) (fun c_98 => ?_)
                                  · first | exact absurd c_98 ((show (scV 0 [50003 % 100000] pC.1) = 0 from zc_t1)) | exact absurd ((show (scV 0 [50003 % 100000] pC.1) = 0 from zc_t1)) c_98
                                  · skip
                                    refine lv_aload_n hx hb dL_scripts_299 rfl (lv_at hl 5 rfl) ?_
                                    refine lv_iconst (v := 1) hx hb dL_scripts_300 (by decide) ?_
                                    refine lv_ldc2 hx hb hown (hts (Cond.constantLong RL 277 (63000)) (List.mem_of_getElem? (i := 20) rfl)) dL_scripts_301 ?_
                                    refine cSWi (As := [.ref (aC.1 0), .int 1, .long 63000]) (rest := []) ⟨hx, hb, hml, hown, hts⟩ (k_runScript1 l D ty 63000 aC tC pC hC kC u_94 hst ((by omega)) ((SG_Pw (P := pC) hG)) ((by omega))) (vx_cwSW 3 hts gL_scripts_L_tryScript rfl rfl rfl (by decide +kernel) ⟨Nat.le_of_ble_eq_true rfl, Nat.le_of_ble_eq_true rfl⟩) hK hX hP hD hS hA (pk (bs := [(CLK ty aC tC pC hC kC u_94)]) (bsc := [(CLK ty aC tC pC hC kC u_94)]) (bsr := []) [0] [] 1 rfl (by decide +kernel) rfl rfl) rfl hl.1 rfl (Nat.le_of_ble_eq_true rfl) dL_scripts_304 ⟨Nat.le_of_ble_eq_true rfl, Nat.le_of_ble_eq_true rfl⟩ (fun r_100 u_99 h_101 H locs hP hD hS => ?_)
                                    have h_r_100 : (scV 0 [63000 % 100000] pC.1) = r_100 := h_101.symm
                                    subst h_r_100
                                    have hP : va_P D vwCl (fl [(CLK ty aC tC pC hC kC u_99)]) H := hP
                                    have hD : va_D A (fl [(CLK ty aC tC pC hC kC u_99)]) := hD
                                    refine lv_ldc hx hb hown (hts (Cond.constant RL 138 (-99999999)) (List.mem_of_getElem? (i := 3) rfl)) dL_scripts_307 ?_
                                    refine lv_icmp_ne (tgt := 369) hx hb dL_scripts_309 (by decide) (fun c_103 => ?_) (fun c_103 => ?_)
                                    · first | exact absurd c_103 ((show (scV 0 [63000 % 100000] pC.1) = (-99999999) from zc_a0)) | exact absurd ((show (scV 0 [63000 % 100000] pC.1) = (-99999999) from zc_a0)) c_103
                                    · skip
                                      refine lv_aload_n hx hb dL_scripts_312 rfl (lv_at hl 5 rfl) ?_
                                      refine lv_iconst (v := 1) hx hb dL_scripts_313 (by decide) ?_
                                      refine lv_ldc2 hx hb hown (hts (Cond.constantLong RL 279 (64000)) (List.mem_of_getElem? (i := 21) rfl)) dL_scripts_314 ?_
                                      refine cSWi (As := [.ref (aC.1 0), .int 1, .long 64000]) (rest := []) ⟨hx, hb, hml, hown, hts⟩ (k_runScript1 l D ty 64000 aC tC pC hC kC u_99 hst ((by omega)) ((SG_Pw (P := pC) hG)) ((by omega))) (vx_cwSW 3 hts gL_scripts_L_tryScript rfl rfl rfl (by decide +kernel) ⟨Nat.le_of_ble_eq_true rfl, Nat.le_of_ble_eq_true rfl⟩) hK hX hP hD hS hA (pk (bs := [(CLK ty aC tC pC hC kC u_99)]) (bsc := [(CLK ty aC tC pC hC kC u_99)]) (bsr := []) [0] [] 1 rfl (by decide +kernel) rfl rfl) rfl hl.1 rfl (Nat.le_of_ble_eq_true rfl) dL_scripts_317 ⟨Nat.le_of_ble_eq_true rfl, Nat.le_of_ble_eq_true rfl⟩ (fun r_105 u_104 h_106 H locs hP hD hS => ?_)
                                      have h_r_105 : (scV 0 [64000 % 100000] pC.1) = r_105 := h_106.symm
                                      subst h_r_105
                                      have hP : va_P D vwCl (fl [(CLK ty aC tC pC hC kC u_104)]) H := hP
                                      have hD : va_D A (fl [(CLK ty aC tC pC hC kC u_104)]) := hD
                                      refine lv_if_ne (tgt := 369) hx hb dL_scripts_320 (by decide) (fun c_108 => ?_) (fun c_108 => ?_)
                                      · first | exact absurd c_108 ((show (scV 0 [64000 % 100000] pC.1) = 0 from zc_a1)) | exact absurd ((show (scV 0 [64000 % 100000] pC.1) = 0 from zc_a1)) c_108
                                      · skip
                                        refine lv_aload_n hx hb dL_scripts_323 rfl (lv_at hl 5 rfl) ?_
                                        refine lv_iconst (v := 1) hx hb dL_scripts_324 (by decide) ?_
                                        refine lv_ldc2 hx hb hown (hts (Cond.constantLong RL 281 (60001)) (List.mem_of_getElem? (i := 22) rfl)) dL_scripts_325 ?_
                                        refine cSWi (As := [.ref (aC.1 0), .int 1, .long 60001]) (rest := []) ⟨hx, hb, hml, hown, hts⟩ (k_runScript1 l D ty 60001 aC tC pC hC kC u_104 hst ((by omega)) ((SG_Pw (P := pC) hG)) ((by omega))) (vx_cwSW 3 hts gL_scripts_L_tryScript rfl rfl rfl (by decide +kernel) ⟨Nat.le_of_ble_eq_true rfl, Nat.le_of_ble_eq_true rfl⟩) hK hX hP hD hS hA (pk (bs := [(CLK ty aC tC pC hC kC u_104)]) (bsc := [(CLK ty aC tC pC hC kC u_104)]) (bsr := []) [0] [] 1 rfl (by decide +kernel) rfl rfl) rfl hl.1 rfl (Nat.le_of_ble_eq_true rfl) dL_scripts_328 ⟨Nat.le_of_ble_eq_true rfl, Nat.le_of_ble_eq_true rfl⟩ (fun r_110 u_109 h_111 H locs hP hD hS => ?_)
                                        have h_r_110 : (scV 0 [60001 % 100000] pC.1) = r_110 := h_111.symm
                                        subst h_r_110
                                        have hP : va_P D vwCl (fl [(CLK ty aC tC pC hC kC u_109)]) H := hP
                                        have hD : va_D A (fl [(CLK ty aC tC pC hC kC u_109)]) := hD
                                        refine lv_if_ne (tgt := 369) hx hb dL_scripts_331 (by decide) (fun c_113 => ?_) (fun c_113 => ?_)
                                        · first | exact absurd c_113 ((show (scV 0 [60001 % 100000] pC.1) = 0 from zc_a2)) | exact absurd ((show (scV 0 [60001 % 100000] pC.1) = 0 from zc_a2)) c_113
                                        · skip
                                          refine lv_aload_n hx hb dL_scripts_334 rfl (lv_at hl 5 rfl) ?_
                                          refine lv_iconst (v := 1) hx hb dL_scripts_335 (by decide) ?_
                                          refine lv_ldc2 hx hb hown (hts (Cond.constantLong RL 283 (88000)) (List.mem_of_getElem? (i := 23) rfl)) dL_scripts_336 ?_
                                          refine cSWi (As := [.ref (aC.1 0), .int 1, .long 88000]) (rest := []) ⟨hx, hb, hml, hown, hts⟩ (k_runScript1 l D ty 88000 aC tC pC hC kC u_109 hst ((by omega)) ((SG_Pw (P := pC) hG)) ((by omega))) (vx_cwSW 3 hts gL_scripts_L_tryScript rfl rfl rfl (by decide +kernel) ⟨Nat.le_of_ble_eq_true rfl, Nat.le_of_ble_eq_true rfl⟩) hK hX hP hD hS hA (pk (bs := [(CLK ty aC tC pC hC kC u_109)]) (bsc := [(CLK ty aC tC pC hC kC u_109)]) (bsr := []) [0] [] 1 rfl (by decide +kernel) rfl rfl) rfl hl.1 rfl (Nat.le_of_ble_eq_true rfl) dL_scripts_339 ⟨Nat.le_of_ble_eq_true rfl, Nat.le_of_ble_eq_true rfl⟩ (fun r_115 u_114 h_116 H locs hP hD hS => ?_)
                                          have h_r_115 : (scV 0 [88000 % 100000] pC.1) = r_115 := h_116.symm
                                          subst h_r_115
                                          have hP : va_P D vwCl (fl [(CLK ty aC tC pC hC kC u_114)]) H := hP
                                          have hD : va_D A (fl [(CLK ty aC tC pC hC kC u_114)]) := hD
                                          refine lv_if_ne (tgt := 369) hx hb dL_scripts_342 (by decide) (fun c_118 => ?_) (fun c_118 => ?_)
                                          · first | exact absurd c_118 ((show (scV 0 [88000 % 100000] pC.1) = 0 from zc_r8)) | exact absurd ((show (scV 0 [88000 % 100000] pC.1) = 0 from zc_r8)) c_118
                                          · skip
                                            refine lv_aload_n hx hb dL_scripts_345 rfl (lv_at hl 5 rfl) ?_
                                            refine lv_iconst (v := 1) hx hb dL_scripts_346 (by decide) ?_
                                            refine lv_ldc2 hx hb hown (hts (Cond.constantLong RL 285 (92000)) (List.mem_of_getElem? (i := 24) rfl)) dL_scripts_347 ?_
                                            refine cSWi (As := [.ref (aC.1 0), .int 1, .long 92000]) (rest := []) ⟨hx, hb, hml, hown, hts⟩ (k_runScript1 l D ty 92000 aC tC pC hC kC u_114 hst ((by omega)) ((SG_Pw (P := pC) hG)) ((by omega))) (vx_cwSW 3 hts gL_scripts_L_tryScript rfl rfl rfl (by decide +kernel) ⟨Nat.le_of_ble_eq_true rfl, Nat.le_of_ble_eq_true rfl⟩) hK hX hP hD hS hA (pk (bs := [(CLK ty aC tC pC hC kC u_114)]) (bsc := [(CLK ty aC tC pC hC kC u_114)]) (bsr := []) [0] [] 1 rfl (by decide +kernel) rfl rfl) rfl hl.1 rfl (Nat.le_of_ble_eq_true rfl) dL_scripts_350 ⟨Nat.le_of_ble_eq_true rfl, Nat.le_of_ble_eq_true rfl⟩ (fun r_120 u_119 h_121 H locs hP hD hS => ?_)
                                            have h_r_120 : (scV 0 [92000 % 100000] pC.1) = r_120 := h_121.symm
                                            subst h_r_120
                                            have hP : va_P D vwCl (fl [(CLK ty aC tC pC hC kC u_119)]) H := hP
                                            have hD : va_D A (fl [(CLK ty aC tC pC hC kC u_119)]) := hD
                                            refine lv_if_ne (tgt := 369) hx hb dL_scripts_353 (by decide) (fun c_123 => ?_) (fun c_123 => ?_)
                                            · first | exact absurd c_123 ((show (scV 0 [92000 % 100000] pC.1) = 0 from zc_o2)) | exact absurd ((show (scV 0 [92000 % 100000] pC.1) = 0 from zc_o2)) c_123
                                            · skip
                                              refine lv_aload_n hx hb dL_scripts_356 rfl (lv_at hl 5 rfl) ?_
                                              refine lv_iconst (v := 1) hx hb dL_scripts_357 (by decide) ?_
                                              refine lv_lconst (v := 0) hx hb dL_scripts_358 (by decide) ?_
                                              refine cSWi (As := [.ref (aC.1 0), .int 1, .long 0]) (rest := []) ⟨hx, hb, hml, hown, hts⟩ (k_runScript1 l D ty 0 aC tC pC hC kC u_119 hst ((by omega)) ((SG_Pw (P := pC) hG)) ((by omega))) (vx_cwSW 3 hts gL_scripts_L_tryScript rfl rfl rfl (by decide +kernel) ⟨Nat.le_of_ble_eq_true rfl, Nat.le_of_ble_eq_true rfl⟩) hK hX hP hD hS hA (pk (bs := [(CLK ty aC tC pC hC kC u_119)]) (bsc := [(CLK ty aC tC pC hC kC u_119)]) (bsr := []) [0] [] 1 rfl (by decide +kernel) rfl rfl) rfl hl.1 rfl (Nat.le_of_ble_eq_true rfl) dL_scripts_359 ⟨Nat.le_of_ble_eq_true rfl, Nat.le_of_ble_eq_true rfl⟩ (fun r_125 u_124 h_126 H locs hP hD hS => ?_)
                                              have h_r_125 : (scV 0 [0 % 100000] pC.1) = r_125 := h_126.symm
                                              subst h_r_125
                                              have hP : va_P D vwCl (fl [(CLK ty aC tC pC hC kC u_124)]) H := hP
                                              have hD : va_D A (fl [(CLK ty aC tC pC hC kC u_124)]) := hD
                                              refine lv_if_ne (tgt := 369) hx hb dL_scripts_362 (by decide) (fun c_128 => ?_) (fun c_128 => ?_)
                                              · first | exact absurd c_128 ((show (scV 0 [0 % 100000] pC.1) = 0 from zc_0)) | exact absurd ((show (scV 0 [0 % 100000] pC.1) = 0 from zc_0)) c_128
                                              · skip
                                                refine lv_iconst (v := 1) hx hb dL_scripts_365 (by decide) ?_
                                                refine lv_goto (tgt := 370) hx hb dL_scripts_366 (by decide) ?_
                                                refine lv_istore (lv' := [(7, .int 1), (6, .int (100 * (simR simK simN 12 ((Int32.toInt64 (nI n9)) * 181) pC.1) 7 + 10 * pdom (simR simK simN 12 ((Int32.toInt64 (nI n9)) * 181) pC.1) + (simR simK simN 12 ((Int32.toInt64 (nI n9)) * 181) pC.1) 11)), (5, .int (nI v9)), (4, .int (nI (n9 % 8))), (3, .int (poff pC.1)), (2, .int (nI d9)), (0, .ref (aC.1 0)), (1, .int (nI n9))]) hx hb dL_scripts_370 hl (by decide) rfl (fun ls hl => ?_)
                                                refine lv_iload hx hb dL_scripts_372 (lv_at hl 0 rfl) ?_
                                                refine lv_if_eq (tgt := 525) hx hb dL_scripts_374 (by decide) (fun c_129 => ?_) (fun c_129 => ?_)
                                                · exact absurd c_129 (by decide)
                                                · skip
                                                  refine lv_iload hx hb dL_scripts_377 (lv_at hl 1 rfl) ?_
                                                  refine lv_if_lt (tgt := 525) hx hb dL_scripts_379 (by decide) (fun c_130 => ?_) (fun c_130 => ?_)
                                                  · first | exact absurd c_130 (sim_nn hG _ _ _ _) | exact absurd (sim_nn hG _ _ _ _) c_130
                                                  · skip
                                                    refine lv_iload hx hb dL_scripts_382 (lv_at hl 1 rfl) ?_
                                                    refine lv_aload_n hx hb dL_scripts_384 rfl (lv_at hl 6 rfl) ?_
                                                    refine lv_iload_n hx hb dL_scripts_385 rfl (lv_at hl 7 rfl) ?_
                                                    refine lv_i2l (v := (Int32.toInt64 (nI n9))) hx hb dL_scripts_386 rfl ?_
                                                    refine lv_ldc2 hx hb hown (hts (Cond.constantLong RL 241 (181)) (List.mem_of_getElem? (i := 1) rfl)) dL_scripts_387 ?_
                                                    refine lv_lmul hx hb dL_scripts_390 ?_
                                                    refine lv_bipush (v := 12) hx hb dL_scripts_391 (by decide) ?_
                                                    refine cSWi (As := [.ref (aC.1 0), .long ((Int32.toInt64 (nI n9)) * 181), .int 12]) (rest := [.int (100 * (simR simK simN 12 ((Int32.toInt64 (nI n9)) * 181) pC.1) 7 + 10 * pdom (simR simK simN 12 ((Int32.toInt64 (nI n9)) * 181) pC.1) + (simR simK simN 12 ((Int32.toInt64 (nI n9)) * 181) pC.1) 11)]) ⟨hx, hb, hml, hown, hts⟩ (k_simulate l D ty ((Int32.toInt64 (nI n9)) * 181) 12 aC tC pC hC kC u_124 hst ((by omega)) ((by omega)) ((SG_Pw (P := pC) hG))) (vx_cwSW 3 hts gL_scripts_L_trySimulate rfl rfl rfl (by decide +kernel) ⟨Nat.le_of_ble_eq_true rfl, Nat.le_of_ble_eq_true rfl⟩) hK hX hP hD hS hA (pk (bs := [(CLK ty aC tC pC hC kC u_124)]) (bsc := [(CLK ty aC tC pC hC kC u_124)]) (bsr := []) [0] [] 1 rfl (by decide +kernel) rfl rfl) rfl hl.1 rfl (Nat.le_of_ble_eq_true rfl) dL_scripts_393 ⟨Nat.le_of_ble_eq_true rfl, Nat.le_of_ble_eq_true rfl⟩ (fun r_132 u_131 h_133 H locs hP hD hS => ?_)
                                                    have h_r_132 : (100 * (simR simK simN 12 ((Int32.toInt64 (nI n9)) * 181) pC.1) 7 + 10 * pdom (simR simK simN 12 ((Int32.toInt64 (nI n9)) * 181) pC.1) + (simR simK simN 12 ((Int32.toInt64 (nI n9)) * 181) pC.1) 11) = r_132 := h_133.symm
                                                    subst h_r_132
                                                    have hP : va_P D vwCl (fl [(CLK ty aC tC pC hC kC u_131)]) H := hP
                                                    have hD : va_D A (fl [(CLK ty aC tC pC hC kC u_131)]) := hD
                                                    refine lv_icmp_ne (tgt := 525) hx hb dL_scripts_396 (by decide) (fun c_135 => ?_) (fun c_135 => ?_)
                                                    · first | exact absurd c_135 rfl | exact absurd rfl c_135
                                                    · skip
                                                      refine lv_aload_n hx hb dL_scripts_399 rfl (lv_at hl 6 rfl) ?_
                                                      refine lv_iconst (v := 1) hx hb dL_scripts_400 (by decide) ?_
                                                      refine lv_ldc2 hx hb hown (hts (Cond.constantLong RL 287 (90999)) (List.mem_of_getElem? (i := 25) rfl)) dL_scripts_401 ?_
                                                      refine cSWi (As := [.ref (aC.1 0), .int 1, .long 90999]) (rest := []) ⟨hx, hb, hml, hown, hts⟩ (k_runScript1 l D ty 90999 aC tC pC hC kC u_131 hst ((by omega)) ((SG_Pw (P := pC) hG)) ((by omega))) (vx_cwSW 3 hts gL_scripts_L_tryScript rfl rfl rfl (by decide +kernel) ⟨Nat.le_of_ble_eq_true rfl, Nat.le_of_ble_eq_true rfl⟩) hK hX hP hD hS hA (pk (bs := [(CLK ty aC tC pC hC kC u_131)]) (bsc := [(CLK ty aC tC pC hC kC u_131)]) (bsr := []) [0] [] 1 rfl (by decide +kernel) rfl rfl) rfl hl.1 rfl (Nat.le_of_ble_eq_true rfl) dL_scripts_404 ⟨Nat.le_of_ble_eq_true rfl, Nat.le_of_ble_eq_true rfl⟩ (fun r_137 u_136 h_138 H locs hP hD hS => ?_)
                                                      have h_r_137 : (scV 0 [90999 % 100000] pC.1) = r_137 := h_138.symm
                                                      subst h_r_137
                                                      have hP : va_P D vwCl (fl [(CLK ty aC tC pC hC kC u_136)]) H := hP
                                                      have hD : va_D A (fl [(CLK ty aC tC pC hC kC u_136)]) := hD
                                                      have hJ423_139 : ∀ (H : Heap) (locs : List Loc), va_P D vwCl (fl [(CLK ty aC tC pC hC kC u_136)]) H → va_D A (fl [(CLK ty aC tC pC hC kC u_136)]) → va_S A s.heap H locs → ∀ ls : Array Slot, lv_has ls 8 [(7, .int 1), (6, .int (100 * (simR simK simN 12 ((Int32.toInt64 (nI n9)) * 181) pC.1) 7 + 10 * pdom (simR simK simN 12 ((Int32.toInt64 (nI n9)) * 181) pC.1) + (simR simK simN 12 ((Int32.toInt64 (nI n9)) * 181) pC.1) 11)), (5, .int (nI v9)), (4, .int (nI (n9 % 8))), (3, .int (poff pC.1)), (2, .int (nI d9)), (0, .ref (aC.1 0)), (1, .int (nI n9))] → W p l e ({ frames := 9, cells := 61, slots := 366, locals := 200 } : Room) s m args below meth c H locs 53 318 Qg (F0 m 423 ls []) := by
                                                        intro H locs hP hD hS ls hl
                                                        refine lv_aload_n hx hb dL_scripts_423 rfl (lv_at hl 6 rfl) ?_
                                                        refine lv_iconst (v := 1) hx hb dL_scripts_424 (by decide) ?_
                                                        refine lv_ldc2 hx hb hown (hts (Cond.constantLong RL 289 (90000)) (List.mem_of_getElem? (i := 26) rfl)) dL_scripts_425 ?_
                                                        refine cSWi (As := [.ref (aC.1 0), .int 1, .long 90000]) (rest := []) ⟨hx, hb, hml, hown, hts⟩ (k_runScript1 l D ty 90000 aC tC pC hC kC u_136 hst ((by omega)) ((SG_Pw (P := pC) hG)) ((by omega))) (vx_cwSW 3 hts gL_scripts_L_tryScript rfl rfl rfl (by decide +kernel) ⟨Nat.le_of_ble_eq_true rfl, Nat.le_of_ble_eq_true rfl⟩) hK hX hP hD hS hA (pk (bs := [(CLK ty aC tC pC hC kC u_136)]) (bsc := [(CLK ty aC tC pC hC kC u_136)]) (bsr := []) [0] [] 1 rfl (by decide +kernel) rfl rfl) rfl hl.1 rfl (Nat.le_of_ble_eq_true rfl) dL_scripts_428 ⟨Nat.le_of_ble_eq_true rfl, Nat.le_of_ble_eq_true rfl⟩ (fun r_142 u_141 h_143 H locs hP hD hS => ?_)
                                                        have h_r_142 : (scV 0 [90000 % 100000] pC.1) = r_142 := h_143.symm
                                                        subst h_r_142
                                                        have hP : va_P D vwCl (fl [(CLK ty aC tC pC hC kC u_141)]) H := hP
                                                        have hD : va_D A (fl [(CLK ty aC tC pC hC kC u_141)]) := hD
                                                        have hJ444_144 : ∀ (H : Heap) (locs : List Loc), va_P D vwCl (fl [(CLK ty aC tC pC hC kC u_141)]) H → va_D A (fl [(CLK ty aC tC pC hC kC u_141)]) → va_S A s.heap H locs → ∀ ls : Array Slot, lv_has ls 8 [(7, .int 1), (6, .int (100 * (simR simK simN 12 ((Int32.toInt64 (nI n9)) * 181) pC.1) 7 + 10 * pdom (simR simK simN 12 ((Int32.toInt64 (nI n9)) * 181) pC.1) + (simR simK simN 12 ((Int32.toInt64 (nI n9)) * 181) pC.1) 11)), (5, .int (nI v9)), (4, .int (nI (n9 % 8))), (3, .int (poff pC.1)), (2, .int (nI d9)), (0, .ref (aC.1 0)), (1, .int (nI n9))] → W p l e ({ frames := 9, cells := 61, slots := 366, locals := 200 } : Room) s m args below meth c H locs 55 330 Qg (F0 m 444 ls []) := by
                                                          intro H locs hP hD hS ls hl
                                                          refine lv_aload_n hx hb dL_scripts_444 rfl (lv_at hl 6 rfl) ?_
                                                          refine lv_iconst (v := 1) hx hb dL_scripts_445 (by decide) ?_
                                                          refine lv_ldc2 hx hb hown (hts (Cond.constantLong RL 291 (91999)) (List.mem_of_getElem? (i := 27) rfl)) dL_scripts_446 ?_
                                                          refine cSWi (As := [.ref (aC.1 0), .int 1, .long 91999]) (rest := []) ⟨hx, hb, hml, hown, hts⟩ (k_runScript1 l D ty 91999 aC tC pC hC kC u_141 hst ((by omega)) ((SG_Pw (P := pC) hG)) ((by omega))) (vx_cwSW 3 hts gL_scripts_L_tryScript rfl rfl rfl (by decide +kernel) ⟨Nat.le_of_ble_eq_true rfl, Nat.le_of_ble_eq_true rfl⟩) hK hX hP hD hS hA (pk (bs := [(CLK ty aC tC pC hC kC u_141)]) (bsc := [(CLK ty aC tC pC hC kC u_141)]) (bsr := []) [0] [] 1 rfl (by decide +kernel) rfl rfl) rfl hl.1 rfl (Nat.le_of_ble_eq_true rfl) dL_scripts_449 ⟨Nat.le_of_ble_eq_true rfl, Nat.le_of_ble_eq_true rfl⟩ (fun r_147 u_146 h_148 H locs hP hD hS => ?_)
                                                          have h_r_147 : (scV 0 [91999 % 100000] pC.1) = r_147 := h_148.symm
                                                          subst h_r_147
                                                          have hP : va_P D vwCl (fl [(CLK ty aC tC pC hC kC u_146)]) H := hP
                                                          have hD : va_D A (fl [(CLK ty aC tC pC hC kC u_146)]) := hD
                                                          have hJ468_149 : ∀ (H : Heap) (locs : List Loc), va_P D vwCl (fl [(CLK ty aC tC pC hC kC u_146)]) H → va_D A (fl [(CLK ty aC tC pC hC kC u_146)]) → va_S A s.heap H locs → ∀ ls : Array Slot, lv_has ls 8 [(7, .int 1), (6, .int (100 * (simR simK simN 12 ((Int32.toInt64 (nI n9)) * 181) pC.1) 7 + 10 * pdom (simR simK simN 12 ((Int32.toInt64 (nI n9)) * 181) pC.1) + (simR simK simN 12 ((Int32.toInt64 (nI n9)) * 181) pC.1) 11)), (5, .int (nI v9)), (4, .int (nI (n9 % 8))), (3, .int (poff pC.1)), (2, .int (nI d9)), (0, .ref (aC.1 0)), (1, .int (nI n9))] → W p l e ({ frames := 9, cells := 61, slots := 366, locals := 200 } : Room) s m args below meth c H locs 57 342 Qg (F0 m 468 ls []) := by
                                                            intro H locs hP hD hS ls hl
                                                            refine lv_iload_n hx hb dL_scripts_468 rfl (lv_at hl 4 rfl) ?_
                                                            refine lv_if_lt (tgt := 495) hx hb dL_scripts_469 (by decide) (fun c_151 => ?_) (fun c_151 => ?_)
                                                            · skip
                                                              have hJ521_151 : ∀ (sJ521_0 : CSc) (H : Heap) (locs : List Loc), va_P D vwCl (fl [(CLK ty aC tC pC hC kC sJ521_0)]) H → va_D A (fl [(CLK ty aC tC pC hC kC sJ521_0)]) → va_S A s.heap H locs → ∀ ls : Array Slot, lv_has ls 8 [(7, .int 1), (6, .int (100 * (simR simK simN 12 ((Int32.toInt64 (nI n9)) * 181) pC.1) 7 + 10 * pdom (simR simK simN 12 ((Int32.toInt64 (nI n9)) * 181) pC.1) + (simR simK simN 12 ((Int32.toInt64 (nI n9)) * 181) pC.1) 11)), (5, .int (nI v9)), (4, .int (nI (n9 % 8))), (3, .int (poff pC.1)), (2, .int (nI d9)), (0, .ref (aC.1 0)), (1, .int (nI n9))] → W p l e ({ frames := 9, cells := 61, slots := 366, locals := 200 } : Room) s m args below meth c H locs 59 354 Qg (F0 m 521 ls []) := by
                                                                intro sJ521_0 H locs hP hD hS ls hl
                                                                refine lv_iconst (v := 1) hx hb dL_scripts_521 (by decide) ?_
                                                                refine lv_goto (tgt := 526) hx hb dL_scripts_522 (by decide) ?_
                                                                subst hQg
                                                                have hP : va_P D vwCl (fl [(CLK ty aC tC pC hC kC sJ521_0)]) H := hP
                                                                have hD : va_D A (fl [(CLK ty aC tC pC hC kC sJ521_0)]) := hD
                                                                exact end_z (bs' := (fun (sN : CSc) => [(CLK ty aC tC pC hC kC sN)])) sJ521_0 hx hb hr hlocks rfl hP hD hS rfl (Nat.le_of_ble_eq_true rfl) (Nat.le_of_ble_eq_true rfl) dL_scripts_526
                                                              refine lv_iload_n hx hb dL_scripts_495 rfl (lv_at hl 4 rfl) ?_
                                                              refine lv_iconst (v := (-1)) hx hb dL_scripts_496 (by decide) ?_
                                                              refine lv_icmp_gt (tgt := 521) hx hb dL_scripts_497 (by decide) (fun c_153 => ?_) (fun c_153 => ?_)
                                                              · skip
                                                                refine W.widen (k := 59) (n := 354) (Nat.le_of_ble_eq_true rfl) (Nat.le_of_ble_eq_true rfl) ?_
                                                                exact hJ521_151 u_146 _ _ hP hD hS _ (lv_sub hl [0, 1, 2, 3, 4, 5, 6, 7] rfl)
                                                              · skip
                                                                refine lv_iload_n hx hb dL_scripts_500 rfl (lv_at hl 4 rfl) ?_
                                                                refine lv_sipush (v := (-998)) hx hb dL_scripts_501 (by decide) ?_
                                                                refine lv_icmp_lt (tgt := 521) hx hb dL_scripts_504 (by decide) (fun c_154 => ?_) (fun c_154 => ?_)
                                                                · skip
                                                                  refine W.widen (k := 59) (n := 354) (Nat.le_of_ble_eq_true rfl) (Nat.le_of_ble_eq_true rfl) ?_
                                                                  exact hJ521_151 u_146 _ _ hP hD hS _ (lv_sub hl [0, 1, 2, 3, 4, 5, 6, 7] rfl)
                                                                · skip
                                                                  obtain ⟨o9, ho91, ho9, ho9e⟩ := off_m c_153 c_154
                                                                  refine lv_aload_n hx hb dL_scripts_507 rfl (lv_at hl 6 rfl) ?_
                                                                  refine lv_iconst (v := 1) hx hb dL_scripts_508 (by decide) ?_
                                                                  refine lv_ldc2 hx hb hown (hts (Cond.constantLong RL 293 (91001)) (List.mem_of_getElem? (i := 28) rfl)) dL_scripts_509 ?_
                                                                  refine lv_iload_n hx hb dL_scripts_512 rfl (lv_at hl 4 rfl) ?_
                                                                  refine lv_i2l (v := (Int32.toInt64 (poff pC.1))) hx hb dL_scripts_513 rfl ?_
                                                                  refine lv_lsub hx hb dL_scripts_514 ?_
                                                                  refine W.eq (g2 := F0 m 515 ls [.long (lN (91000 + (1 + o9))), .int 1, .ref (aC.1 0)]) (by rw [show (91001 - (Int32.toInt64 (poff pC.1))) = (lN (91000 + (1 + o9))) from (by rw [ho9e]; exact off_L (by omega))]) ?_
                                                                  refine cSWi (As := [.ref (aC.1 0), .int 1, .long (lN (91000 + (1 + o9)))]) (rest := []) ⟨hx, hb, hml, hown, hts⟩ (k_runScript1 l D ty (91000 + (1 + o9)) aC tC pC hC kC u_146 hst ((by omega)) ((SG_Pw (P := pC) hG)) ((by omega))) (vx_cwSW 3 hts gL_scripts_L_tryScript rfl rfl rfl (by decide +kernel) ⟨Nat.le_of_ble_eq_true rfl, Nat.le_of_ble_eq_true rfl⟩) hK hX hP hD hS hA (pk (bs := [(CLK ty aC tC pC hC kC u_146)]) (bsc := [(CLK ty aC tC pC hC kC u_146)]) (bsr := []) [0] [] 1 rfl (by decide +kernel) rfl rfl) rfl hl.1 rfl (Nat.le_of_ble_eq_true rfl) dL_scripts_515 ⟨Nat.le_of_ble_eq_true rfl, Nat.le_of_ble_eq_true rfl⟩ (fun r_156 u_155 h_157 H locs hP hD hS => ?_)
                                                                  have h_r_156 : (scV 0 [(91000 + (1 + o9)) % 100000] pC.1) = r_156 := h_157.symm
                                                                  subst h_r_156
                                                                  have hP : va_P D vwCl (fl [(CLK ty aC tC pC hC kC u_155)]) H := hP
                                                                  have hD : va_D A (fl [(CLK ty aC tC pC hC kC u_155)]) := hD
                                                                  refine lv_if_ne (tgt := 525) hx hb dL_scripts_518 (by decide) (fun c_159 => ?_) (fun c_159 => ?_)
                                                                  · first | exact absurd c_159 ((show (scV 0 [(91000 + (1 + o9)) % 100000] pC.1) = 0 from zc_mn (T := 1 + o9) (by omega) (off_m2 (by omega) ho9e))) | exact absurd ((show (scV 0 [(91000 + (1 + o9)) % 100000] pC.1) = 0 from zc_mn (T := 1 + o9) (by omega) (off_m2 (by omega) ho9e))) c_159
                                                                  · skip
                                                                    exact hJ521_151 u_155 _ _ hP hD hS _ (lv_sub hl [0, 1, 2, 3, 4, 5, 6, 7] rfl)
                                                            · skip
                                                              refine lv_iload_n hx hb dL_scripts_472 rfl (lv_at hl 4 rfl) ?_
                                                              refine lv_sipush (v := 999) hx hb dL_scripts_473 (by decide) ?_
                                                              refine lv_icmp_gt (tgt := 495) hx hb dL_scripts_476 (by decide) (fun c_160 => ?_) (fun c_160 => ?_)
                                                              · skip
                                                                have hJ521_160 : ∀ (sJ521_0 : CSc) (H : Heap) (locs : List Loc), va_P D vwCl (fl [(CLK ty aC tC pC hC kC sJ521_0)]) H → va_D A (fl [(CLK ty aC tC pC hC kC sJ521_0)]) → va_S A s.heap H locs → ∀ ls : Array Slot, lv_has ls 8 [(7, .int 1), (6, .int (100 * (simR simK simN 12 ((Int32.toInt64 (nI n9)) * 181) pC.1) 7 + 10 * pdom (simR simK simN 12 ((Int32.toInt64 (nI n9)) * 181) pC.1) + (simR simK simN 12 ((Int32.toInt64 (nI n9)) * 181) pC.1) 11)), (5, .int (nI v9)), (4, .int (nI (n9 % 8))), (3, .int (poff pC.1)), (2, .int (nI d9)), (0, .ref (aC.1 0)), (1, .int (nI n9))] → W p l e ({ frames := 9, cells := 61, slots := 366, locals := 200 } : Room) s m args below meth c H locs 59 354 Qg (F0 m 521 ls []) := by
                                                                  intro sJ521_0 H locs hP hD hS ls hl
                                                                  refine lv_iconst (v := 1) hx hb dL_scripts_521 (by decide) ?_
                                                                  refine lv_goto (tgt := 526) hx hb dL_scripts_522 (by decide) ?_
                                                                  subst hQg
                                                                  have hP : va_P D vwCl (fl [(CLK ty aC tC pC hC kC sJ521_0)]) H := hP
                                                                  have hD : va_D A (fl [(CLK ty aC tC pC hC kC sJ521_0)]) := hD
                                                                  exact end_z (bs' := (fun (sN : CSc) => [(CLK ty aC tC pC hC kC sN)])) sJ521_0 hx hb hr hlocks rfl hP hD hS rfl (Nat.le_of_ble_eq_true rfl) (Nat.le_of_ble_eq_true rfl) dL_scripts_526
                                                                refine lv_iload_n hx hb dL_scripts_495 rfl (lv_at hl 4 rfl) ?_
                                                                refine lv_iconst (v := (-1)) hx hb dL_scripts_496 (by decide) ?_
                                                                refine lv_icmp_gt (tgt := 521) hx hb dL_scripts_497 (by decide) (fun c_162 => ?_) (fun c_162 => ?_)
                                                                · skip
                                                                  refine W.widen (k := 59) (n := 354) (Nat.le_of_ble_eq_true rfl) (Nat.le_of_ble_eq_true rfl) ?_
                                                                  exact hJ521_160 u_146 _ _ hP hD hS _ (lv_sub hl [0, 1, 2, 3, 4, 5, 6, 7] rfl)
                                                                · skip
                                                                  refine lv_iload_n hx hb dL_scripts_500 rfl (lv_at hl 4 rfl) ?_
                                                                  refine lv_sipush (v := (-998)) hx hb dL_scripts_501 (by decide) ?_
                                                                  refine lv_icmp_lt (tgt := 521) hx hb dL_scripts_504 (by decide) (fun c_163 => ?_) (fun c_163 => ?_)
                                                                  · skip
                                                                    refine W.widen (k := 59) (n := 354) (Nat.le_of_ble_eq_true rfl) (Nat.le_of_ble_eq_true rfl) ?_
                                                                    exact hJ521_160 u_146 _ _ hP hD hS _ (lv_sub hl [0, 1, 2, 3, 4, 5, 6, 7] rfl)
                                                                  · skip
                                                                    obtain ⟨o9, ho91, ho9, ho9e⟩ := off_m c_162 c_163
                                                                    refine lv_aload_n hx hb dL_scripts_507 rfl (lv_at hl 6 rfl) ?_
                                                                    refine lv_iconst (v := 1) hx hb dL_scripts_508 (by decide) ?_
                                                                    refine lv_ldc2 hx hb hown (hts (Cond.constantLong RL 293 (91001)) (List.mem_of_getElem? (i := 28) rfl)) dL_scripts_509 ?_
                                                                    refine lv_iload_n hx hb dL_scripts_512 rfl (lv_at hl 4 rfl) ?_
                                                                    refine lv_i2l (v := (Int32.toInt64 (poff pC.1))) hx hb dL_scripts_513 rfl ?_
                                                                    refine lv_lsub hx hb dL_scripts_514 ?_
                                                                    refine W.eq (g2 := F0 m 515 ls [.long (lN (91000 + (1 + o9))), .int 1, .ref (aC.1 0)]) (by rw [show (91001 - (Int32.toInt64 (poff pC.1))) = (lN (91000 + (1 + o9))) from (by rw [ho9e]; exact off_L (by omega))]) ?_
                                                                    refine cSWi (As := [.ref (aC.1 0), .int 1, .long (lN (91000 + (1 + o9)))]) (rest := []) ⟨hx, hb, hml, hown, hts⟩ (k_runScript1 l D ty (91000 + (1 + o9)) aC tC pC hC kC u_146 hst ((by omega)) ((SG_Pw (P := pC) hG)) ((by omega))) (vx_cwSW 3 hts gL_scripts_L_tryScript rfl rfl rfl (by decide +kernel) ⟨Nat.le_of_ble_eq_true rfl, Nat.le_of_ble_eq_true rfl⟩) hK hX hP hD hS hA (pk (bs := [(CLK ty aC tC pC hC kC u_146)]) (bsc := [(CLK ty aC tC pC hC kC u_146)]) (bsr := []) [0] [] 1 rfl (by decide +kernel) rfl rfl) rfl hl.1 rfl (Nat.le_of_ble_eq_true rfl) dL_scripts_515 ⟨Nat.le_of_ble_eq_true rfl, Nat.le_of_ble_eq_true rfl⟩ (fun r_165 u_164 h_166 H locs hP hD hS => ?_)
                                                                    have h_r_165 : (scV 0 [(91000 + (1 + o9)) % 100000] pC.1) = r_165 := h_166.symm
                                                                    subst h_r_165
                                                                    have hP : va_P D vwCl (fl [(CLK ty aC tC pC hC kC u_164)]) H := hP
                                                                    have hD : va_D A (fl [(CLK ty aC tC pC hC kC u_164)]) := hD
                                                                    refine lv_if_ne (tgt := 525) hx hb dL_scripts_518 (by decide) (fun c_168 => ?_) (fun c_168 => ?_)
                                                                    · first | exact absurd c_168 ((show (scV 0 [(91000 + (1 + o9)) % 100000] pC.1) = 0 from zc_mn (T := 1 + o9) (by omega) (off_m2 (by omega) ho9e))) | exact absurd ((show (scV 0 [(91000 + (1 + o9)) % 100000] pC.1) = 0 from zc_mn (T := 1 + o9) (by omega) (off_m2 (by omega) ho9e))) c_168
                                                                    · skip
                                                                      exact hJ521_160 u_164 _ _ hP hD hS _ (lv_sub hl [0, 1, 2, 3, 4, 5, 6, 7] rfl)
                                                              · skip
                                                                obtain ⟨o9, ho9, ho9e⟩ := off_n c_151 c_160
                                                                refine lv_aload_n hx hb dL_scripts_479 rfl (lv_at hl 6 rfl) ?_
                                                                refine lv_iconst (v := 1) hx hb dL_scripts_480 (by decide) ?_
                                                                refine lv_ldc2 hx hb hown (hts (Cond.constantLong RL 289 (90000)) (List.mem_of_getElem? (i := 26) rfl)) dL_scripts_481 ?_
                                                                refine lv_iload_n hx hb dL_scripts_484 rfl (lv_at hl 4 rfl) ?_
                                                                refine lv_i2l (v := (Int32.toInt64 (poff pC.1))) hx hb dL_scripts_485 rfl ?_
                                                                refine k_ladd (v := (90000 + (Int32.toInt64 (poff pC.1)))) hx hb dL_scripts_486 rfl ?_
                                                                refine W.eq (g2 := F0 m 487 ls [.long (lN (90000 + o9)), .int 1, .ref (aC.1 0)]) (by rw [show (90000 + (Int32.toInt64 (poff pC.1))) = (lN (90000 + o9)) from (by rw [ho9e, i2l_N (by omega)]; exact lN_add 90000 o9)]) ?_
                                                                refine cSWi (As := [.ref (aC.1 0), .int 1, .long (lN (90000 + o9))]) (rest := []) ⟨hx, hb, hml, hown, hts⟩ (k_runScript1 l D ty (90000 + o9) aC tC pC hC kC u_146 hst ((by omega)) ((SG_Pw (P := pC) hG)) ((by omega))) (vx_cwSW 3 hts gL_scripts_L_tryScript rfl rfl rfl (by decide +kernel) ⟨Nat.le_of_ble_eq_true rfl, Nat.le_of_ble_eq_true rfl⟩) hK hX hP hD hS hA (pk (bs := [(CLK ty aC tC pC hC kC u_146)]) (bsc := [(CLK ty aC tC pC hC kC u_146)]) (bsr := []) [0] [] 1 rfl (by decide +kernel) rfl rfl) rfl hl.1 rfl (Nat.le_of_ble_eq_true rfl) dL_scripts_487 ⟨Nat.le_of_ble_eq_true rfl, Nat.le_of_ble_eq_true rfl⟩ (fun r_170 u_169 h_171 H locs hP hD hS => ?_)
                                                                have h_r_170 : (scV 0 [(90000 + o9) % 100000] pC.1) = r_170 := h_171.symm
                                                                subst h_r_170
                                                                have hP : va_P D vwCl (fl [(CLK ty aC tC pC hC kC u_169)]) H := hP
                                                                have hD : va_D A (fl [(CLK ty aC tC pC hC kC u_169)]) := hD
                                                                refine lv_ldc hx hb hown (hts (Cond.constant RL 138 (-99999999)) (List.mem_of_getElem? (i := 3) rfl)) dL_scripts_490 ?_
                                                                refine lv_icmp_ne (tgt := 525) hx hb dL_scripts_492 (by decide) (fun c_173 => ?_) (fun c_173 => ?_)
                                                                · first | exact absurd c_173 ((show (scV 0 [(90000 + o9) % 100000] pC.1) = (-99999999) from zc_oy (T := o9) ho9 (by rw [ho9e, fa_le]; omega))) | exact absurd ((show (scV 0 [(90000 + o9) % 100000] pC.1) = (-99999999) from zc_oy (T := o9) ho9 (by rw [ho9e, fa_le]; omega))) c_173
                                                                · skip
                                                                  have hJ521_173 : ∀ (sJ521_0 : CSc) (H : Heap) (locs : List Loc), va_P D vwCl (fl [(CLK ty aC tC pC hC kC sJ521_0)]) H → va_D A (fl [(CLK ty aC tC pC hC kC sJ521_0)]) → va_S A s.heap H locs → ∀ ls : Array Slot, lv_has ls 8 [(7, .int 1), (6, .int (100 * (simR simK simN 12 ((Int32.toInt64 (nI n9)) * 181) pC.1) 7 + 10 * pdom (simR simK simN 12 ((Int32.toInt64 (nI n9)) * 181) pC.1) + (simR simK simN 12 ((Int32.toInt64 (nI n9)) * 181) pC.1) 11)), (5, .int (nI v9)), (4, .int (nI (n9 % 8))), (3, .int (poff pC.1)), (2, .int (nI d9)), (0, .ref (aC.1 0)), (1, .int (nI n9))] → W p l e ({ frames := 9, cells := 61, slots := 366, locals := 200 } : Room) s m args below meth c H locs 61 366 Qg (F0 m 521 ls []) := by
                                                                    intro sJ521_0 H locs hP hD hS ls hl
                                                                    refine lv_iconst (v := 1) hx hb dL_scripts_521 (by decide) ?_
                                                                    refine lv_goto (tgt := 526) hx hb dL_scripts_522 (by decide) ?_
                                                                    subst hQg
                                                                    have hP : va_P D vwCl (fl [(CLK ty aC tC pC hC kC sJ521_0)]) H := hP
                                                                    have hD : va_D A (fl [(CLK ty aC tC pC hC kC sJ521_0)]) := hD
                                                                    exact end_z (bs' := (fun (sN : CSc) => [(CLK ty aC tC pC hC kC sN)])) sJ521_0 hx hb hr hlocks rfl hP hD hS rfl (Nat.le_of_ble_eq_true rfl) (Nat.le_of_ble_eq_true rfl) dL_scripts_526
                                                                  refine lv_iload_n hx hb dL_scripts_495 rfl (lv_at hl 4 rfl) ?_
                                                                  refine lv_iconst (v := (-1)) hx hb dL_scripts_496 (by decide) ?_
                                                                  refine lv_icmp_gt (tgt := 521) hx hb dL_scripts_497 (by decide) (fun c_175 => ?_) (fun c_175 => ?_)
                                                                  · skip
                                                                    refine W.widen (k := 61) (n := 366) (Nat.le_of_ble_eq_true rfl) (Nat.le_of_ble_eq_true rfl) ?_
                                                                    exact hJ521_173 u_169 _ _ hP hD hS _ (lv_sub hl [0, 1, 2, 3, 4, 5, 6, 7] rfl)
                                                                  · skip
                                                                    refine lv_iload_n hx hb dL_scripts_500 rfl (lv_at hl 4 rfl) ?_
                                                                    refine lv_sipush (v := (-998)) hx hb dL_scripts_501 (by decide) ?_
                                                                    refine lv_icmp_lt (tgt := 521) hx hb dL_scripts_504 (by decide) (fun c_176 => ?_) (fun c_176 => ?_)
                                                                    · skip
                                                                      refine W.widen (k := 61) (n := 366) (Nat.le_of_ble_eq_true rfl) (Nat.le_of_ble_eq_true rfl) ?_
                                                                      exact hJ521_173 u_169 _ _ hP hD hS _ (lv_sub hl [0, 1, 2, 3, 4, 5, 6, 7] rfl)
                                                                    · skip
                                                                      obtain ⟨o9, ho91, ho9, ho9e⟩ := off_m c_175 c_176
                                                                      refine lv_aload_n hx hb dL_scripts_507 rfl (lv_at hl 6 rfl) ?_
                                                                      refine lv_iconst (v := 1) hx hb dL_scripts_508 (by decide) ?_
                                                                      refine lv_ldc2 hx hb hown (hts (Cond.constantLong RL 293 (91001)) (List.mem_of_getElem? (i := 28) rfl)) dL_scripts_509 ?_
                                                                      refine lv_iload_n hx hb dL_scripts_512 rfl (lv_at hl 4 rfl) ?_
                                                                      refine lv_i2l (v := (Int32.toInt64 (poff pC.1))) hx hb dL_scripts_513 rfl ?_
                                                                      refine lv_lsub hx hb dL_scripts_514 ?_
                                                                      refine W.eq (g2 := F0 m 515 ls [.long (lN (91000 + (1 + o9))), .int 1, .ref (aC.1 0)]) (by rw [show (91001 - (Int32.toInt64 (poff pC.1))) = (lN (91000 + (1 + o9))) from (by rw [ho9e]; exact off_L (by omega))]) ?_
                                                                      refine cSWi (As := [.ref (aC.1 0), .int 1, .long (lN (91000 + (1 + o9)))]) (rest := []) ⟨hx, hb, hml, hown, hts⟩ (k_runScript1 l D ty (91000 + (1 + o9)) aC tC pC hC kC u_169 hst ((by omega)) ((SG_Pw (P := pC) hG)) ((by omega))) (vx_cwSW 3 hts gL_scripts_L_tryScript rfl rfl rfl (by decide +kernel) ⟨Nat.le_of_ble_eq_true rfl, Nat.le_of_ble_eq_true rfl⟩) hK hX hP hD hS hA (pk (bs := [(CLK ty aC tC pC hC kC u_169)]) (bsc := [(CLK ty aC tC pC hC kC u_169)]) (bsr := []) [0] [] 1 rfl (by decide +kernel) rfl rfl) rfl hl.1 rfl (Nat.le_of_ble_eq_true rfl) dL_scripts_515 ⟨Nat.le_of_ble_eq_true rfl, Nat.le_of_ble_eq_true rfl⟩ (fun r_178 u_177 h_179 H locs hP hD hS => ?_)
                                                                      have h_r_178 : (scV 0 [(91000 + (1 + o9)) % 100000] pC.1) = r_178 := h_179.symm
                                                                      subst h_r_178
                                                                      have hP : va_P D vwCl (fl [(CLK ty aC tC pC hC kC u_177)]) H := hP
                                                                      have hD : va_D A (fl [(CLK ty aC tC pC hC kC u_177)]) := hD
                                                                      refine lv_if_ne (tgt := 525) hx hb dL_scripts_518 (by decide) (fun c_181 => ?_) (fun c_181 => ?_)
                                                                      · first | exact absurd c_181 ((show (scV 0 [(91000 + (1 + o9)) % 100000] pC.1) = 0 from zc_mn (T := 1 + o9) (by omega) (off_m2 (by omega) ho9e))) | exact absurd ((show (scV 0 [(91000 + (1 + o9)) % 100000] pC.1) = 0 from zc_mn (T := 1 + o9) (by omega) (off_m2 (by omega) ho9e))) c_181
                                                                      · skip
                                                                        exact hJ521_173 u_177 _ _ hP hD hS _ (lv_sub hl [0, 1, 2, 3, 4, 5, 6, 7] rfl)
                                                          refine lv_iload_n hx hb dL_scripts_452 rfl (lv_at hl 4 rfl) ?_
                                                          refine lv_sipush (v := (-999)) hx hb dL_scripts_453 (by decide) ?_
                                                          refine lv_icmp_gt (tgt := 464) hx hb dL_scripts_456 (by decide) (fun c_182 => ?_) (fun c_182 => ?_)
                                                          · skip
                                                            refine lv_iconst (v := 0) hx hb dL_scripts_464 (by decide) ?_
                                                            refine lv_icmp_ne (tgt := 525) hx hb dL_scripts_465 (by decide) (fun c_183 => ?_) (fun c_183 => ?_)
                                                            · first | exact absurd c_183 ((show (scV 0 [91999 % 100000] pC.1) = 0 from zc_mn (T := 999) (by omega) (nle_of_lt c_182))) | exact absurd ((show (scV 0 [91999 % 100000] pC.1) = 0 from zc_mn (T := 999) (by omega) (nle_of_lt c_182))) c_183
                                                            · skip
                                                              exact hJ468_149 _ _ hP hD hS _ (lv_sub hl [0, 1, 2, 3, 4, 5, 6, 7] rfl)
                                                          · skip
                                                            refine lv_ldc hx hb hown (hts (Cond.constant RL 138 (-99999999)) (List.mem_of_getElem? (i := 3) rfl)) dL_scripts_459 ?_
                                                            refine lv_goto (tgt := 465) hx hb dL_scripts_461 (by decide) ?_
                                                            refine lv_icmp_ne (tgt := 525) hx hb dL_scripts_465 (by decide) (fun c_184 => ?_) (fun c_184 => ?_)
                                                            · first | exact absurd c_184 ((show (scV 0 [91999 % 100000] pC.1) = (-99999999) from zc_my (T := 999) (by omega) (le_of_nlt c_182))) | exact absurd ((show (scV 0 [91999 % 100000] pC.1) = (-99999999) from zc_my (T := 999) (by omega) (le_of_nlt c_182))) c_184
                                                            · skip
                                                              exact hJ468_149 _ _ hP hD hS _ (lv_sub hl [0, 1, 2, 3, 4, 5, 6, 7] rfl)
                                                        refine lv_iload_n hx hb dL_scripts_431 rfl (lv_at hl 4 rfl) ?_
                                                        refine lv_if_gt (tgt := 440) hx hb dL_scripts_432 (by decide) (fun c_185 => ?_) (fun c_185 => ?_)
                                                        · skip
                                                          refine lv_iconst (v := 0) hx hb dL_scripts_440 (by decide) ?_
                                                          refine lv_icmp_ne (tgt := 525) hx hb dL_scripts_441 (by decide) (fun c_186 => ?_) (fun c_186 => ?_)
                                                          · first | exact absurd c_186 ((show (scV 0 [90000 % 100000] pC.1) = 0 from zc_on (T := 0) (by omega) (nle_of_lt c_185))) | exact absurd ((show (scV 0 [90000 % 100000] pC.1) = 0 from zc_on (T := 0) (by omega) (nle_of_lt c_185))) c_186
                                                          · skip
                                                            exact hJ444_144 _ _ hP hD hS _ (lv_sub hl [0, 1, 2, 3, 4, 5, 6, 7] rfl)
                                                        · skip
                                                          refine lv_ldc hx hb hown (hts (Cond.constant RL 138 (-99999999)) (List.mem_of_getElem? (i := 3) rfl)) dL_scripts_435 ?_
                                                          refine lv_goto (tgt := 441) hx hb dL_scripts_437 (by decide) ?_
                                                          refine lv_icmp_ne (tgt := 525) hx hb dL_scripts_441 (by decide) (fun c_187 => ?_) (fun c_187 => ?_)
                                                          · first | exact absurd c_187 ((show (scV 0 [90000 % 100000] pC.1) = (-99999999) from zc_oy (T := 0) (by omega) (le_of_nlt c_185))) | exact absurd ((show (scV 0 [90000 % 100000] pC.1) = (-99999999) from zc_oy (T := 0) (by omega) (le_of_nlt c_185))) c_187
                                                          · skip
                                                            exact hJ444_144 _ _ hP hD hS _ (lv_sub hl [0, 1, 2, 3, 4, 5, 6, 7] rfl)
                                                      refine lv_iload_n hx hb dL_scripts_407 rfl (lv_at hl 4 rfl) ?_
                                                      refine lv_sipush (v := 999) hx hb dL_scripts_408 (by decide) ?_
                                                      refine lv_icmp_gt (tgt := 419) hx hb dL_scripts_411 (by decide) (fun c_188 => ?_) (fun c_188 => ?_)
                                                      · skip
                                                        refine lv_iconst (v := 0) hx hb dL_scripts_419 (by decide) ?_
                                                        refine lv_icmp_ne (tgt := 525) hx hb dL_scripts_420 (by decide) (fun c_189 => ?_) (fun c_189 => ?_)
                                                        · first | exact absurd c_189 ((show (scV 0 [90999 % 100000] pC.1) = 0 from zc_on (T := 999) (by omega) (nle_of_lt c_188))) | exact absurd ((show (scV 0 [90999 % 100000] pC.1) = 0 from zc_on (T := 999) (by omega) (nle_of_lt c_188))) c_189
                                                        · skip
                                                          exact hJ423_139 _ _ hP hD hS _ (lv_sub hl [0, 1, 2, 3, 4, 5, 6, 7] rfl)
                                                      · skip
                                                        refine lv_ldc hx hb hown (hts (Cond.constant RL 138 (-99999999)) (List.mem_of_getElem? (i := 3) rfl)) dL_scripts_414 ?_
                                                        refine lv_goto (tgt := 420) hx hb dL_scripts_416 (by decide) ?_
                                                        refine lv_icmp_ne (tgt := 525) hx hb dL_scripts_420 (by decide) (fun c_190 => ?_) (fun c_190 => ?_)
                                                        · first | exact absurd c_190 ((show (scV 0 [90999 % 100000] pC.1) = (-99999999) from zc_oy (T := 999) (by omega) (le_of_nlt c_188))) | exact absurd ((show (scV 0 [90999 % 100000] pC.1) = (-99999999) from zc_oy (T := 999) (by omega) (le_of_nlt c_188))) c_190
                                                        · skip
                                                          exact hJ423_139 _ _ hP hD hS _ (lv_sub hl [0, 1, 2, 3, 4, 5, 6, 7] rfl)
                          refine lv_iload_n hx hb dL_scripts_240 rfl (lv_at hl 4 rfl) ?_
                          refine lv_if_ne (tgt := 249) hx hb dL_scripts_241 (by decide) (fun c_191 => ?_) (fun c_191 => ?_)
                          · skip
                            refine lv_iconst (v := 0) hx hb dL_scripts_249 (by decide) ?_
                            refine lv_icmp_ne (tgt := 369) hx hb dL_scripts_250 (by decide) (fun c_192 => ?_) (fun c_192 => ?_)
                            · first | exact absurd c_192 ((show (scV 0 [(40255 + 1000 * (n9 % 8)) % 100000] pC.1) = 0 from zc_w1 (by omega) (by rw [hd9e]; exact c_191))) | exact absurd ((show (scV 0 [(40255 + 1000 * (n9 % 8)) % 100000] pC.1) = 0 from zc_w1 (by omega) (by rw [hd9e]; exact c_191))) c_192
                            · skip
                              exact hJ253_77 _ _ hP hD hS _ (lv_sub hl [0, 1, 2, 3, 4, 5, 6] rfl)
                          · skip
                            refine lv_ldc hx hb hown (hts (Cond.constant RL 138 (-99999999)) (List.mem_of_getElem? (i := 3) rfl)) dL_scripts_244 ?_
                            refine lv_goto (tgt := 250) hx hb dL_scripts_246 (by decide) ?_
                            refine lv_icmp_ne (tgt := 369) hx hb dL_scripts_250 (by decide) (fun c_193 => ?_) (fun c_193 => ?_)
                            · first | exact absurd c_193 ((show (scV 0 [(40255 + 1000 * (n9 % 8)) % 100000] pC.1) = (-99999999) from zc_w0 (by omega) (by rw [hd9e]; exact c_191))) | exact absurd ((show (scV 0 [(40255 + 1000 * (n9 % 8)) % 100000] pC.1) = (-99999999) from zc_w0 (by omega) (by rw [hd9e]; exact c_191))) c_193
                            · skip
                              exact hJ253_77 _ _ hP hD hS _ (lv_sub hl [0, 1, 2, 3, 4, 5, 6] rfl)
                    refine lv_iload_n hx hb dL_scripts_189 rfl (lv_at hl 4 rfl) ?_
                    refine lv_if_ne (tgt := 198) hx hb dL_scripts_190 (by decide) (fun c_194 => ?_) (fun c_194 => ?_)
                    · skip
                      refine lv_iconst (v := 0) hx hb dL_scripts_198 (by decide) ?_
                      refine lv_icmp_ne (tgt := 369) hx hb dL_scripts_199 (by decide) (fun c_195 => ?_) (fun c_195 => ?_)
                      · first | exact absurd c_195 ((show (scV 0 [31500 % 100000] pC.1) = 0 from zc_c1 (by rw [hd9e]; exact c_194))) | exact absurd ((show (scV 0 [31500 % 100000] pC.1) = 0 from zc_c1 (by rw [hd9e]; exact c_194))) c_195
                      · skip
                        exact hJ202_62 _ _ hP hD hS _ (lv_sub hl [0, 1, 2, 3, 4, 5, 6] rfl)
                    · skip
                      refine lv_ldc hx hb hown (hts (Cond.constant RL 138 (-99999999)) (List.mem_of_getElem? (i := 3) rfl)) dL_scripts_193 ?_
                      refine lv_goto (tgt := 199) hx hb dL_scripts_195 (by decide) ?_
                      refine lv_icmp_ne (tgt := 369) hx hb dL_scripts_199 (by decide) (fun c_196 => ?_) (fun c_196 => ?_)
                      · first | exact absurd c_196 ((show (scV 0 [31500 % 100000] pC.1) = (-99999999) from zc_c0 (by rw [hd9e]; exact c_194))) | exact absurd ((show (scV 0 [31500 % 100000] pC.1) = (-99999999) from zc_c0 (by rw [hd9e]; exact c_194))) c_196
                      · skip
                        exact hJ202_62 _ _ hP hD hS _ (lv_sub hl [0, 1, 2, 3, 4, 5, 6] rfl)
