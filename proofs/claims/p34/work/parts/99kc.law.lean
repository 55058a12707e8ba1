set_option maxHeartbeats 8000000 in
set_option maxRecDepth 100000 in
theorem k_refuses (l : Launch) (D : va_G) (ty : Nat → ClassId) (B M : Int) (aC : CA) (tC : CTx) (pC : CPg) (hC : CHs) (kC : CKs) (sC : CSc) (hst : l.stackTraces = false) (hG : SG B M pC) (hc : hC.1 ≤ 14) (hl6 : tC.1 ≤ 60) : CTi l yL_refuses wsL_refuses ({ frames := 9, cells := 65, slots := 390, locals := 200 }) D ty [.ref (aC.1 0)] [(CLK ty aC tC pC hC kC sC)] (fun (RET : Int32) (_ : Unit) => RET = 1) (fun (_ : Unit) => [(CLK ty aC tC pC hC kC sC)]) := by
  refine CTi_of cL_refuses 4 (some .boolean) (by decide) rfl (Nat.le_of_ble_eq_true rfl) ?_
  intro p e s m args below meth c A hx hb hr hml hown hlocks hin hts hA hX hK hP hD ls hl
  have hown : s.vm.findClass RL = some m.cls := hown
  have hS : va_S A s.heap s.heap [] := va_S.rf
  have hl : lv_has ls 4 [(0, .ref (aC.1 0))] := hl
  generalize hQg : MQ below (va_Qi (fun (RET : Int32) (_ : Unit) => RET = 1) (PostW D (fun (_ : Unit) => [(CLK ty aC tC pC hC kC sC)]) A) A) args s 65 390 A = Qg
  refine lv_aload_n hx hb dL_refuses_0 rfl (lv_at hl 0 rfl) ?_
  refine lv_bipush (v := 10) hx hb dL_refuses_1 (by decide) ?_
  refine cSWi (As := [.ref (aC.1 0), .int 10]) (rest := []) ⟨hx, hb, hml, hown, hts⟩ (k_about l D ty 10 aC tC pC hC kC sC hst ((inR_d (by decide +kernel)))) (vx_cwSW 2 hts gL_refuses_L_tryAbout rfl rfl rfl (by decide +kernel) ⟨Nat.le_of_ble_eq_true rfl, Nat.le_of_ble_eq_true rfl⟩) hK hX hP hD hS hA (pk (bs := [(CLK ty aC tC pC hC kC sC)]) (bsc := [(CLK ty aC tC pC hC kC sC)]) (bsr := []) [0] [] 1 rfl (by decide +kernel) rfl rfl) rfl hl.1 rfl (Nat.le_of_ble_eq_true rfl) dL_refuses_3 ⟨Nat.le_of_ble_eq_true rfl, Nat.le_of_ble_eq_true rfl⟩ (fun r_2 u_1 h_3 H locs hP hD hS => ?_)
  have h_r_2 : r_2 = pC.1 11 := h_3.trans (tell_10 _)
  subst h_r_2
  have hP : va_P D vwCl (fl [(CLK ty aC tC pC hC kC sC)]) H := hP
  have hD : va_D A (fl [(CLK ty aC tC pC hC kC sC)]) := hD
  refine lv_istore_n (lv' := [(1, .int (pC.1 11)), (0, .ref (aC.1 0))]) hx hb dL_refuses_6 rfl hl (by decide) rfl (fun ls hl => ?_)
  refine lv_aload_n hx hb dL_refuses_7 rfl (lv_at hl 1 rfl) ?_
  refine lv_bipush (v := 9) hx hb dL_refuses_8 (by decide) ?_
  refine cSWi (As := [.ref (aC.1 0), .int 9]) (rest := []) ⟨hx, hb, hml, hown, hts⟩ (k_about l D ty 9 aC tC pC hC kC sC hst ((inR_d (by decide +kernel)))) (vx_cwSW 2 hts gL_refuses_L_tryAbout rfl rfl rfl (by decide +kernel) ⟨Nat.le_of_ble_eq_true rfl, Nat.le_of_ble_eq_true rfl⟩) hK hX hP hD hS hA (pk (bs := [(CLK ty aC tC pC hC kC sC)]) (bsc := [(CLK ty aC tC pC hC kC sC)]) (bsr := []) [0] [] 1 rfl (by decide +kernel) rfl rfl) rfl hl.1 rfl (Nat.le_of_ble_eq_true rfl) dL_refuses_10 ⟨Nat.le_of_ble_eq_true rfl, Nat.le_of_ble_eq_true rfl⟩ (fun r_5 u_4 h_6 H locs hP hD hS => ?_)
  have h_r_5 : r_5 = pdom pC.1 := h_6.trans (tell_9 _)
  subst h_r_5
  have hP : va_P D vwCl (fl [(CLK ty aC tC pC hC kC sC)]) H := hP
  have hD : va_D A (fl [(CLK ty aC tC pC hC kC sC)]) := hD
  refine lv_if_le (tgt := 20) hx hb dL_refuses_13 (by decide) (fun c_7 => ?_) (fun c_7 => ?_)
  · skip
    refine lv_iconst (v := 0) hx hb dL_refuses_20 (by decide) ?_
    refine lv_istore_n (lv' := [(2, .int 0), (1, .int (pC.1 11)), (0, .ref (aC.1 0))]) hx hb dL_refuses_21 rfl hl (by decide) rfl (fun ls hl => ?_)
    refine lv_aload_n hx hb dL_refuses_22 rfl (lv_at hl 2 rfl) ?_
    refine lv_bipush (v := 15) hx hb dL_refuses_23 (by decide) ?_
    refine cSWi (As := [.ref (aC.1 0), .int 15]) (rest := []) ⟨hx, hb, hml, hown, hts⟩ (k_about_n0 l D ty 15 aC tC pC hC kC sC hst ((ninR_d (by decide +kernel)))) (vx_cwSW 2 hts gL_refuses_L_tryAbout rfl rfl rfl (by decide +kernel) ⟨Nat.le_of_ble_eq_true rfl, Nat.le_of_ble_eq_true rfl⟩) hK hX hP hD hS hA (pk (bs := [(CLK ty aC tC pC hC kC sC)]) (bsc := [(CLK ty aC tC pC hC kC sC)]) (bsr := []) [0] [] 1 rfl (by decide +kernel) rfl rfl) rfl hl.1 rfl (Nat.le_of_ble_eq_true rfl) dL_refuses_25 ⟨Nat.le_of_ble_eq_true rfl, Nat.le_of_ble_eq_true rfl⟩ (fun r_9 u_8 h_10 H locs hP hD hS => ?_)
    have h_r_9 : r_9 = (-999999002) := h_10
    subst h_r_9
    have hP : va_P D vwCl (fl [(CLK ty aC tC pC hC kC sC)]) H := hP
    have hD : va_D A (fl [(CLK ty aC tC pC hC kC sC)]) := hD
    refine lv_ldc hx hb hown (hts (Cond.constant RL 15 (-999999002)) (List.mem_of_getElem? (i := 1) rfl)) dL_refuses_28 ?_
    refine lv_icmp_ne (tgt := 283) hx hb dL_refuses_30 (by decide) (fun c_11 => ?_) (fun c_11 => ?_)
    · first | exact absurd c_11 (by decide) | exact absurd (by decide) c_11
    · skip
      refine lv_aload_n hx hb dL_refuses_33 rfl (lv_at hl 2 rfl) ?_
      refine lv_bipush (v := 6) hx hb dL_refuses_34 (by decide) ?_
      refine cSWl (As := [.ref (aC.1 0), .int 6]) (rest := []) ⟨hx, hb, hml, hown, hts⟩ (k_account_n0 l D ty 6 aC tC pC hC kC sC hst ((ninR_d (by decide +kernel)))) (vx_cwSW 2 hts gL_refuses_L_account rfl rfl rfl (by decide +kernel) ⟨Nat.le_of_ble_eq_true rfl, Nat.le_of_ble_eq_true rfl⟩) hK hX hP hD hS hA (pk (bs := [(CLK ty aC tC pC hC kC sC)]) (bsc := [(CLK ty aC tC pC hC kC sC)]) (bsr := []) [0] [] 1 rfl (by decide +kernel) rfl rfl) rfl hl.1 rfl (Nat.le_of_ble_eq_true rfl) dL_refuses_36 ⟨Nat.le_of_ble_eq_true rfl, Nat.le_of_ble_eq_true rfl⟩ (fun r_13 u_12 h_14 H locs hP hD hS => ?_)
      have h_r_13 : r_13 = (-999999002) := h_14
      subst h_r_13
      have hP : va_P D vwCl (fl [(CLK ty aC tC pC hC kC sC)]) H := hP
      have hD : va_D A (fl [(CLK ty aC tC pC hC kC sC)]) := hD
      refine lv_ldc2 hx hb hown (hts (Cond.constantLong RL 107 (-999999002)) (List.mem_of_getElem? (i := 2) rfl)) dL_refuses_39 ?_
      refine W.lcmp hx hb dL_refuses_42 ?_
      refine W.eq (g2 := F0 m 43 ls [.int 0]) (by rw [show lg_cmp (-999999002) (-999999002) = 0 from by decide +kernel]) ?_
      refine lv_if_ne (tgt := 283) hx hb dL_refuses_43 (by decide) (fun c_15 => ?_) (fun c_15 => ?_)
      · first | exact absurd c_15 (by decide) | exact absurd (by decide) c_15
      · skip
        refine lv_aload_n hx hb dL_refuses_46 rfl (lv_at hl 2 rfl) ?_
        refine lv_bipush (v := 8) hx hb dL_refuses_47 (by decide) ?_
        refine cSWi (As := [.ref (aC.1 0), .int 8]) (rest := []) ⟨hx, hb, hml, hown, hts⟩ (k_register_n0 l D ty 8 aC tC pC hC kC sC hst ((ninI_d (by decide +kernel)))) (vx_cwSW 2 hts gL_refuses_L_tryRegister rfl rfl rfl (by decide +kernel) ⟨Nat.le_of_ble_eq_true rfl, Nat.le_of_ble_eq_true rfl⟩) hK hX hP hD hS hA (pk (bs := [(CLK ty aC tC pC hC kC sC)]) (bsc := [(CLK ty aC tC pC hC kC sC)]) (bsr := []) [0] [] 1 rfl (by decide +kernel) rfl rfl) rfl hl.1 rfl (Nat.le_of_ble_eq_true rfl) dL_refuses_49 ⟨Nat.le_of_ble_eq_true rfl, Nat.le_of_ble_eq_true rfl⟩ (fun r_17 u_16 h_18 H locs hP hD hS => ?_)
        have h_r_17 : r_17 = (-999999001) := h_18
        subst h_r_17
        have hP : va_P D vwCl (fl [(CLK ty aC tC pC hC kC sC)]) H := hP
        have hD : va_D A (fl [(CLK ty aC tC pC hC kC sC)]) := hD
        refine lv_ldc hx hb hown (hts (Cond.constant RL 31 (-999999001)) (List.mem_of_getElem? (i := 3) rfl)) dL_refuses_52 ?_
        refine lv_icmp_ne (tgt := 283) hx hb dL_refuses_54 (by decide) (fun c_19 => ?_) (fun c_19 => ?_)
        · first | exact absurd c_19 (by decide) | exact absurd (by decide) c_19
        · skip
          refine lv_aload_n hx hb dL_refuses_57 rfl (lv_at hl 2 rfl) ?_
          refine lv_iconst (v := 3) hx hb dL_refuses_58 (by decide) ?_
          refine cSWi (As := [.ref (aC.1 0), .int 3]) (rest := []) ⟨hx, hb, hml, hown, hts⟩ (k_isGuarded_n0 l D ty 3 aC tC pC hC kC sC hst ((ninI_d (by decide +kernel)))) (vx_cwSW 2 hts gL_refuses_L_tryIsGuarded rfl rfl rfl (by decide +kernel) ⟨Nat.le_of_ble_eq_true rfl, Nat.le_of_ble_eq_true rfl⟩) hK hX hP hD hS hA (pk (bs := [(CLK ty aC tC pC hC kC sC)]) (bsc := [(CLK ty aC tC pC hC kC sC)]) (bsr := []) [0] [] 1 rfl (by decide +kernel) rfl rfl) rfl hl.1 rfl (Nat.le_of_ble_eq_true rfl) dL_refuses_59 ⟨Nat.le_of_ble_eq_true rfl, Nat.le_of_ble_eq_true rfl⟩ (fun r_21 u_20 h_22 H locs hP hD hS => ?_)
          have h_r_21 : r_21 = (-999999001) := h_22
          subst h_r_21
          have hP : va_P D vwCl (fl [(CLK ty aC tC pC hC kC sC)]) H := hP
          have hD : va_D A (fl [(CLK ty aC tC pC hC kC sC)]) := hD
          refine lv_ldc hx hb hown (hts (Cond.constant RL 31 (-999999001)) (List.mem_of_getElem? (i := 3) rfl)) dL_refuses_62 ?_
          refine lv_icmp_ne (tgt := 283) hx hb dL_refuses_64 (by decide) (fun c_23 => ?_) (fun c_23 => ?_)
          · first | exact absurd c_23 (by decide) | exact absurd (by decide) c_23
          · skip
            refine lv_aload_n hx hb dL_refuses_67 rfl (lv_at hl 2 rfl) ?_
            refine lv_iload_n hx hb dL_refuses_68 rfl (lv_at hl 1 rfl) ?_
            refine lv_iconst (v := 3) hx hb dL_refuses_69 (by decide) ?_
            refine cSWi (As := [.ref (aC.1 0), .int (pC.1 11), .int 3]) (rest := []) ⟨hx, hb, hml, hown, hts⟩ (k_row_n0 l D ty (pC.1 11) 3 aC tC pC hC kC sC hst ((SG_Rw hG).2) ((ninI_self _))) (vx_cwSW 3 hts gL_refuses_L_tryRow rfl rfl rfl (by decide +kernel) ⟨Nat.le_of_ble_eq_true rfl, Nat.le_of_ble_eq_true rfl⟩) hK hX hP hD hS hA (pk (bs := [(CLK ty aC tC pC hC kC sC)]) (bsc := [(CLK ty aC tC pC hC kC sC)]) (bsr := []) [0] [] 1 rfl (by decide +kernel) rfl rfl) rfl hl.1 rfl (Nat.le_of_ble_eq_true rfl) dL_refuses_70 ⟨Nat.le_of_ble_eq_true rfl, Nat.le_of_ble_eq_true rfl⟩ (fun r_25 u_24 h_26 H locs hP hD hS => ?_)
            have h_r_25 : r_25 = (-999999001) := h_26
            subst h_r_25
            have hP : va_P D vwCl (fl [(CLK ty aC tC pC hC kC sC)]) H := hP
            have hD : va_D A (fl [(CLK ty aC tC pC hC kC sC)]) := hD
            refine lv_ldc hx hb hown (hts (Cond.constant RL 31 (-999999001)) (List.mem_of_getElem? (i := 3) rfl)) dL_refuses_73 ?_
            refine lv_icmp_ne (tgt := 283) hx hb dL_refuses_75 (by decide) (fun c_27 => ?_) (fun c_27 => ?_)
            · first | exact absurd c_27 (by decide) | exact absurd (by decide) c_27
            · skip
              have hJ93_27 : ∀ (H : Heap) (locs : List Loc), va_P D vwCl (fl [(CLK ty aC tC pC hC kC sC)]) H → va_D A (fl [(CLK ty aC tC pC hC kC sC)]) → va_S A s.heap H locs → ∀ ls : Array Slot, lv_has ls 4 [(2, .int 0), (1, .int (pC.1 11)), (0, .ref (aC.1 0))] → W p l e ({ frames := 9, cells := 65, slots := 390, locals := 200 } : Room) s m args below meth c H locs 10 60 Qg (F0 m 93 ls []) := by
                intro H locs hP hD hS ls hl
                refine lv_aload_n hx hb dL_refuses_93 rfl (lv_at hl 2 rfl) ?_
                refine lv_iconst (v := 4) hx hb dL_refuses_94 (by decide) ?_
                refine lv_iconst (v := 3) hx hb dL_refuses_95 (by decide) ?_
                refine cSWi (As := [.ref (aC.1 0), .int 4, .int 3]) (rest := []) ⟨hx, hb, hml, hown, hts⟩ (k_alarm_n0 l D ty 4 3 aC tC pC hC kC sC hst ((ninI_d (by decide +kernel)))) (vx_cwSW 3 hts gL_refuses_L_tryAlarm rfl rfl rfl (by decide +kernel) ⟨Nat.le_of_ble_eq_true rfl, Nat.le_of_ble_eq_true rfl⟩) hK hX hP hD hS hA (pk (bs := [(CLK ty aC tC pC hC kC sC)]) (bsc := [(CLK ty aC tC pC hC kC sC)]) (bsr := []) [0] [] 1 rfl (by decide +kernel) rfl rfl) rfl hl.1 rfl (Nat.le_of_ble_eq_true rfl) dL_refuses_96 ⟨Nat.le_of_ble_eq_true rfl, Nat.le_of_ble_eq_true rfl⟩ (fun r_30 u_29 h_31 H locs hP hD hS => ?_)
                have h_r_30 : r_30 = (-999999001) := h_31
                subst h_r_30
                have hP : va_P D vwCl (fl [(CLK ty aC tC pC hC kC sC)]) H := hP
                have hD : va_D A (fl [(CLK ty aC tC pC hC kC sC)]) := hD
                refine lv_ldc hx hb hown (hts (Cond.constant RL 31 (-999999001)) (List.mem_of_getElem? (i := 3) rfl)) dL_refuses_99 ?_
                refine lv_icmp_ne (tgt := 283) hx hb dL_refuses_101 (by decide) (fun c_32 => ?_) (fun c_32 => ?_)
                · first | exact absurd c_32 (by decide) | exact absurd (by decide) c_32
                · skip
                  refine lv_aload_n hx hb dL_refuses_104 rfl (lv_at hl 2 rfl) ?_
                  refine lv_iconst (v := 0) hx hb dL_refuses_105 (by decide) ?_
                  refine lv_iconst (v := 3) hx hb dL_refuses_106 (by decide) ?_
                  refine cSWi (As := [.ref (aC.1 0), .int 0, .int 3]) (rest := []) ⟨hx, hb, hml, hown, hts⟩ (k_alarm_n1 l D ty 0 3 aC tC pC hC kC sC hst ((inI_d (by decide +kernel))) ((ninR_d (by decide +kernel)))) (vx_cwSW 3 hts gL_refuses_L_tryAlarm rfl rfl rfl (by decide +kernel) ⟨Nat.le_of_ble_eq_true rfl, Nat.le_of_ble_eq_true rfl⟩) hK hX hP hD hS hA (pk (bs := [(CLK ty aC tC pC hC kC sC)]) (bsc := [(CLK ty aC tC pC hC kC sC)]) (bsr := []) [0] [] 1 rfl (by decide +kernel) rfl rfl) rfl hl.1 rfl (Nat.le_of_ble_eq_true rfl) dL_refuses_107 ⟨Nat.le_of_ble_eq_true rfl, Nat.le_of_ble_eq_true rfl⟩ (fun r_34 u_33 h_35 H locs hP hD hS => ?_)
                  have h_r_34 : r_34 = (-999999002) := h_35
                  subst h_r_34
                  have hP : va_P D vwCl (fl [(CLK ty aC tC pC hC kC sC)]) H := hP
                  have hD : va_D A (fl [(CLK ty aC tC pC hC kC sC)]) := hD
                  refine lv_ldc hx hb hown (hts (Cond.constant RL 15 (-999999002)) (List.mem_of_getElem? (i := 1) rfl)) dL_refuses_110 ?_
                  refine lv_icmp_ne (tgt := 283) hx hb dL_refuses_112 (by decide) (fun c_36 => ?_) (fun c_36 => ?_)
                  · first | exact absurd c_36 (by decide) | exact absurd (by decide) c_36
                  · skip
                    refine lv_aload_n hx hb dL_refuses_115 rfl (lv_at hl 2 rfl) ?_
                    refine lv_iconst (v := 0) hx hb dL_refuses_116 (by decide) ?_
                    refine cSWi (As := [.ref (aC.1 0), .int 0]) (rest := []) ⟨hx, hb, hml, hown, hts⟩ (k_pass_n0 l D ty 0 aC tC pC hC kC sC hst hc ((SG_Iw hG)) ((ninR_d (by decide +kernel)))) (vx_cwSW 2 hts gL_refuses_L_tryPass rfl rfl rfl (by decide +kernel) ⟨Nat.le_of_ble_eq_true rfl, Nat.le_of_ble_eq_true rfl⟩) hK hX hP hD hS hA (pk (bs := [(CLK ty aC tC pC hC kC sC)]) (bsc := [(CLK ty aC tC pC hC kC sC)]) (bsr := []) [0] [] 1 rfl (by decide +kernel) rfl rfl) rfl hl.1 rfl (Nat.le_of_ble_eq_true rfl) dL_refuses_117 ⟨Nat.le_of_ble_eq_true rfl, Nat.le_of_ble_eq_true rfl⟩ (fun r_38 u_37 h_39 H locs hP hD hS => ?_)
                    have h_r_38 : r_38 = (-999999002) := h_39
                    subst h_r_38
                    have hP : va_P D vwCl (fl [(CLK ty aC tC pC hC kC sC)]) H := hP
                    have hD : va_D A (fl [(CLK ty aC tC pC hC kC sC)]) := hD
                    refine lv_ldc hx hb hown (hts (Cond.constant RL 15 (-999999002)) (List.mem_of_getElem? (i := 1) rfl)) dL_refuses_120 ?_
                    refine lv_icmp_ne (tgt := 283) hx hb dL_refuses_122 (by decide) (fun c_40 => ?_) (fun c_40 => ?_)
                    · first | exact absurd c_40 (by decide) | exact absurd (by decide) c_40
                    · skip
                      refine lv_aload_n hx hb dL_refuses_125 rfl (lv_at hl 2 rfl) ?_
                      refine lv_sipush (v := 1441) hx hb dL_refuses_126 (by decide) ?_
                      refine cSWi (As := [.ref (aC.1 0), .int 1441]) (rest := []) ⟨hx, hb, hml, hown, hts⟩ (k_pass_n0 l D ty 1441 aC tC pC hC kC sC hst hc ((SG_Iw hG)) ((ninR_d (by decide +kernel)))) (vx_cwSW 2 hts gL_refuses_L_tryPass rfl rfl rfl (by decide +kernel) ⟨Nat.le_of_ble_eq_true rfl, Nat.le_of_ble_eq_true rfl⟩) hK hX hP hD hS hA (pk (bs := [(CLK ty aC tC pC hC kC sC)]) (bsc := [(CLK ty aC tC pC hC kC sC)]) (bsr := []) [0] [] 1 rfl (by decide +kernel) rfl rfl) rfl hl.1 rfl (Nat.le_of_ble_eq_true rfl) dL_refuses_129 ⟨Nat.le_of_ble_eq_true rfl, Nat.le_of_ble_eq_true rfl⟩ (fun r_42 u_41 h_43 H locs hP hD hS => ?_)
                      have h_r_42 : r_42 = (-999999002) := h_43
                      subst h_r_42
                      have hP : va_P D vwCl (fl [(CLK ty aC tC pC hC kC sC)]) H := hP
                      have hD : va_D A (fl [(CLK ty aC tC pC hC kC sC)]) := hD
                      refine lv_ldc hx hb hown (hts (Cond.constant RL 15 (-999999002)) (List.mem_of_getElem? (i := 1) rfl)) dL_refuses_132 ?_
                      refine lv_icmp_ne (tgt := 283) hx hb dL_refuses_134 (by decide) (fun c_44 => ?_) (fun c_44 => ?_)
                      · first | exact absurd c_44 (by decide) | exact absurd (by decide) c_44
                      · skip
                        refine lv_aload_n hx hb dL_refuses_137 rfl (lv_at hl 2 rfl) ?_
                        refine lv_bipush (v := 10) hx hb dL_refuses_138 (by decide) ?_
                        refine cSWi (As := [.ref (aC.1 0), .int 10]) (rest := []) ⟨hx, hb, hml, hown, hts⟩ (k_level_n0 l D ty 10 aC tC pC hC kC sC hst hc ((ninR_d (by decide +kernel)))) (vx_cwSW 2 hts gL_refuses_L_tryLevel rfl rfl rfl (by decide +kernel) ⟨Nat.le_of_ble_eq_true rfl, Nat.le_of_ble_eq_true rfl⟩) hK hX hP hD hS hA (pk (bs := [(CLK ty aC tC pC hC kC sC)]) (bsc := [(CLK ty aC tC pC hC kC sC)]) (bsr := []) [0] [] 1 rfl (by decide +kernel) rfl rfl) rfl hl.1 rfl (Nat.le_of_ble_eq_true rfl) dL_refuses_140 ⟨Nat.le_of_ble_eq_true rfl, Nat.le_of_ble_eq_true rfl⟩ (fun r_46 u_45 h_47 H locs hP hD hS => ?_)
                        have h_r_46 : r_46 = (-999999002) := h_47
                        subst h_r_46
                        have hP : va_P D vwCl (fl [(CLK ty aC tC pC hC kC sC)]) H := hP
                        have hD : va_D A (fl [(CLK ty aC tC pC hC kC sC)]) := hD
                        refine lv_ldc hx hb hown (hts (Cond.constant RL 15 (-999999002)) (List.mem_of_getElem? (i := 1) rfl)) dL_refuses_143 ?_
                        refine lv_icmp_ne (tgt := 283) hx hb dL_refuses_145 (by decide) (fun c_48 => ?_) (fun c_48 => ?_)
                        · first | exact absurd c_48 (by decide) | exact absurd (by decide) c_48
                        · skip
                          refine lv_aload_n hx hb dL_refuses_148 rfl (lv_at hl 2 rfl) ?_
                          refine lv_iconst (v := (-1)) hx hb dL_refuses_149 (by decide) ?_
                          refine cSWi (As := [.ref (aC.1 0), .int (-1)]) (rest := []) ⟨hx, hb, hml, hown, hts⟩ (k_setTime_n0 l D ty (-1) aC tC pC hC kC sC hst hc ((ninR_d (by decide +kernel)))) (vx_cwSW 2 hts gL_refuses_L_trySetTime rfl rfl rfl (by decide +kernel) ⟨Nat.le_of_ble_eq_true rfl, Nat.le_of_ble_eq_true rfl⟩) hK hX hP hD hS hA (pk (bs := [(CLK ty aC tC pC hC kC sC)]) (bsc := [(CLK ty aC tC pC hC kC sC)]) (bsr := []) [0] [] 1 rfl (by decide +kernel) rfl rfl) rfl hl.1 rfl (Nat.le_of_ble_eq_true rfl) dL_refuses_150 ⟨Nat.le_of_ble_eq_true rfl, Nat.le_of_ble_eq_true rfl⟩ (fun r_50 u_49 h_51 H locs hP hD hS => ?_)
                          have h_r_50 : r_50 = (-999999002) := h_51
                          subst h_r_50
                          have hP : va_P D vwCl (fl [(CLK ty aC tC pC hC kC sC)]) H := hP
                          have hD : va_D A (fl [(CLK ty aC tC pC hC kC sC)]) := hD
                          refine lv_ldc hx hb hown (hts (Cond.constant RL 15 (-999999002)) (List.mem_of_getElem? (i := 1) rfl)) dL_refuses_153 ?_
                          refine lv_icmp_ne (tgt := 283) hx hb dL_refuses_155 (by decide) (fun c_52 => ?_) (fun c_52 => ?_)
                          · first | exact absurd c_52 (by decide) | exact absurd (by decide) c_52
                          · skip
                            refine lv_aload_n hx hb dL_refuses_158 rfl (lv_at hl 2 rfl) ?_
                            refine lv_ldc hx hb hown (hts (Cond.constant RL 177 (100000000)) (List.mem_of_getElem? (i := 4) rfl)) dL_refuses_159 ?_
                            refine cSWi (As := [.ref (aC.1 0), .int 100000000]) (rest := []) ⟨hx, hb, hml, hown, hts⟩ (k_setTime_n0 l D ty 100000000 aC tC pC hC kC sC hst hc ((ninR_d (by decide +kernel)))) (vx_cwSW 2 hts gL_refuses_L_trySetTime rfl rfl rfl (by decide +kernel) ⟨Nat.le_of_ble_eq_true rfl, Nat.le_of_ble_eq_true rfl⟩) hK hX hP hD hS hA (pk (bs := [(CLK ty aC tC pC hC kC sC)]) (bsc := [(CLK ty aC tC pC hC kC sC)]) (bsr := []) [0] [] 1 rfl (by decide +kernel) rfl rfl) rfl hl.1 rfl (Nat.le_of_ble_eq_true rfl) dL_refuses_161 ⟨Nat.le_of_ble_eq_true rfl, Nat.le_of_ble_eq_true rfl⟩ (fun r_54 u_53 h_55 H locs hP hD hS => ?_)
                            have h_r_54 : r_54 = (-999999002) := h_55
                            subst h_r_54
                            have hP : va_P D vwCl (fl [(CLK ty aC tC pC hC kC sC)]) H := hP
                            have hD : va_D A (fl [(CLK ty aC tC pC hC kC sC)]) := hD
                            refine lv_ldc hx hb hown (hts (Cond.constant RL 15 (-999999002)) (List.mem_of_getElem? (i := 1) rfl)) dL_refuses_164 ?_
                            refine lv_icmp_ne (tgt := 283) hx hb dL_refuses_166 (by decide) (fun c_56 => ?_) (fun c_56 => ?_)
                            · first | exact absurd c_56 (by decide) | exact absurd (by decide) c_56
                            · skip
                              refine lv_aload_n hx hb dL_refuses_169 rfl (lv_at hl 2 rfl) ?_
                              refine lv_sipush (v := 501) hx hb dL_refuses_170 (by decide) ?_
                              refine cSWi (As := [.ref (aC.1 0), .int 501]) (rest := []) ⟨hx, hb, hml, hown, hts⟩ (k_correct_n0 l D ty 501 aC tC pC hC kC sC hst hc ((ninR_d (by decide +kernel)))) (vx_cwSW 2 hts gL_refuses_L_tryCorrect rfl rfl rfl (by decide +kernel) ⟨Nat.le_of_ble_eq_true rfl, Nat.le_of_ble_eq_true rfl⟩) hK hX hP hD hS hA (pk (bs := [(CLK ty aC tC pC hC kC sC)]) (bsc := [(CLK ty aC tC pC hC kC sC)]) (bsr := []) [0] [] 1 rfl (by decide +kernel) rfl rfl) rfl hl.1 rfl (Nat.le_of_ble_eq_true rfl) dL_refuses_173 ⟨Nat.le_of_ble_eq_true rfl, Nat.le_of_ble_eq_true rfl⟩ (fun r_58 u_57 h_59 H locs hP hD hS => ?_)
                              have h_r_58 : r_58 = (-999999002) := h_59
                              subst h_r_58
                              have hP : va_P D vwCl (fl [(CLK ty aC tC pC hC kC sC)]) H := hP
                              have hD : va_D A (fl [(CLK ty aC tC pC hC kC sC)]) := hD
                              refine lv_ldc hx hb hown (hts (Cond.constant RL 15 (-999999002)) (List.mem_of_getElem? (i := 1) rfl)) dL_refuses_176 ?_
                              refine lv_icmp_ne (tgt := 283) hx hb dL_refuses_178 (by decide) (fun c_60 => ?_) (fun c_60 => ?_)
                              · first | exact absurd c_60 (by decide) | exact absurd (by decide) c_60
                              · skip
                                refine lv_aload_n hx hb dL_refuses_181 rfl (lv_at hl 2 rfl) ?_
                                refine lv_sipush (v := (-501)) hx hb dL_refuses_182 (by decide) ?_
                                refine cSWi (As := [.ref (aC.1 0), .int (-501)]) (rest := []) ⟨hx, hb, hml, hown, hts⟩ (k_age_n0 l D ty (-501) aC tC pC hC kC sC hst hc ((ninR_d (by decide +kernel)))) (vx_cwSW 2 hts gL_refuses_L_tryAge rfl rfl rfl (by decide +kernel) ⟨Nat.le_of_ble_eq_true rfl, Nat.le_of_ble_eq_true rfl⟩) hK hX hP hD hS hA (pk (bs := [(CLK ty aC tC pC hC kC sC)]) (bsc := [(CLK ty aC tC pC hC kC sC)]) (bsr := []) [0] [] 1 rfl (by decide +kernel) rfl rfl) rfl hl.1 rfl (Nat.le_of_ble_eq_true rfl) dL_refuses_185 ⟨Nat.le_of_ble_eq_true rfl, Nat.le_of_ble_eq_true rfl⟩ (fun r_62 u_61 h_63 H locs hP hD hS => ?_)
                                have h_r_62 : r_62 = (-999999002) := h_63
                                subst h_r_62
                                have hP : va_P D vwCl (fl [(CLK ty aC tC pC hC kC sC)]) H := hP
                                have hD : va_D A (fl [(CLK ty aC tC pC hC kC sC)]) := hD
                                refine lv_ldc hx hb hown (hts (Cond.constant RL 15 (-999999002)) (List.mem_of_getElem? (i := 1) rfl)) dL_refuses_188 ?_
                                refine lv_icmp_ne (tgt := 283) hx hb dL_refuses_190 (by decide) (fun c_64 => ?_) (fun c_64 => ?_)
                                · first | exact absurd c_64 (by decide) | exact absurd (by decide) c_64
                                · skip
                                  refine lv_aload_n hx hb dL_refuses_193 rfl (lv_at hl 2 rfl) ?_
                                  refine lv_bipush (v := 8) hx hb dL_refuses_194 (by decide) ?_
                                  refine lv_sipush (v := 256) hx hb dL_refuses_196 (by decide) ?_
                                  refine cSWi (As := [.ref (aC.1 0), .int 8, .int 256]) (rest := []) ⟨hx, hb, hml, hown, hts⟩ (k_write_n0 l D ty 8 256 aC tC pC hC kC sC hst hc ((ninI_d (by decide +kernel)))) (vx_cwSW 3 hts gL_refuses_L_tryWrite rfl rfl rfl (by decide +kernel) ⟨Nat.le_of_ble_eq_true rfl, Nat.le_of_ble_eq_true rfl⟩) hK hX hP hD hS hA (pk (bs := [(CLK ty aC tC pC hC kC sC)]) (bsc := [(CLK ty aC tC pC hC kC sC)]) (bsr := []) [0] [] 1 rfl (by decide +kernel) rfl rfl) rfl hl.1 rfl (Nat.le_of_ble_eq_true rfl) dL_refuses_199 ⟨Nat.le_of_ble_eq_true rfl, Nat.le_of_ble_eq_true rfl⟩ (fun r_66 u_65 h_67 H locs hP hD hS => ?_)
                                  have h_r_66 : r_66 = (-999999001) := h_67
                                  subst h_r_66
                                  have hP : va_P D vwCl (fl [(CLK ty aC tC pC hC kC sC)]) H := hP
                                  have hD : va_D A (fl [(CLK ty aC tC pC hC kC sC)]) := hD
                                  refine lv_ldc hx hb hown (hts (Cond.constant RL 31 (-999999001)) (List.mem_of_getElem? (i := 3) rfl)) dL_refuses_202 ?_
                                  refine lv_icmp_ne (tgt := 283) hx hb dL_refuses_204 (by decide) (fun c_68 => ?_) (fun c_68 => ?_)
                                  · first | exact absurd c_68 (by decide) | exact absurd (by decide) c_68
                                  · skip
                                    refine lv_aload_n hx hb dL_refuses_207 rfl (lv_at hl 2 rfl) ?_
                                    refine lv_iconst (v := 0) hx hb dL_refuses_208 (by decide) ?_
                                    refine lv_sipush (v := 256) hx hb dL_refuses_209 (by decide) ?_
                                    refine cSWi (As := [.ref (aC.1 0), .int 0, .int 256]) (rest := []) ⟨hx, hb, hml, hown, hts⟩ (k_write_n1 l D ty 0 256 aC tC pC hC kC sC hst hc ((inI_d (by decide +kernel))) ((ninR_d (by decide +kernel)))) (vx_cwSW 3 hts gL_refuses_L_tryWrite rfl rfl rfl (by decide +kernel) ⟨Nat.le_of_ble_eq_true rfl, Nat.le_of_ble_eq_true rfl⟩) hK hX hP hD hS hA (pk (bs := [(CLK ty aC tC pC hC kC sC)]) (bsc := [(CLK ty aC tC pC hC kC sC)]) (bsr := []) [0] [] 1 rfl (by decide +kernel) rfl rfl) rfl hl.1 rfl (Nat.le_of_ble_eq_true rfl) dL_refuses_212 ⟨Nat.le_of_ble_eq_true rfl, Nat.le_of_ble_eq_true rfl⟩ (fun r_70 u_69 h_71 H locs hP hD hS => ?_)
                                    have h_r_70 : r_70 = (-999999002) := h_71
                                    subst h_r_70
                                    have hP : va_P D vwCl (fl [(CLK ty aC tC pC hC kC sC)]) H := hP
                                    have hD : va_D A (fl [(CLK ty aC tC pC hC kC sC)]) := hD
                                    refine lv_ldc hx hb hown (hts (Cond.constant RL 15 (-999999002)) (List.mem_of_getElem? (i := 1) rfl)) dL_refuses_215 ?_
                                    refine lv_icmp_ne (tgt := 283) hx hb dL_refuses_217 (by decide) (fun c_72 => ?_) (fun c_72 => ?_)
                                    · first | exact absurd c_72 (by decide) | exact absurd (by decide) c_72
                                    · skip
                                      refine lv_aload_n hx hb dL_refuses_220 rfl (lv_at hl 2 rfl) ?_
                                      refine lv_iconst (v := 3) hx hb dL_refuses_221 (by decide) ?_
                                      refine lv_iconst (v := 1) hx hb dL_refuses_222 (by decide) ?_
                                      refine cSWi (As := [.ref (aC.1 0), .int 3, .int 1]) (rest := []) ⟨hx, hb, hml, hown, hts⟩ (k_guard1_n0 l D ty 3 aC tC pC hC kC sC hst hc ((ninI_d (by decide +kernel)))) (vx_cwSW 3 hts gL_refuses_L_tryGuard rfl rfl rfl (by decide +kernel) ⟨Nat.le_of_ble_eq_true rfl, Nat.le_of_ble_eq_true rfl⟩) hK hX hP hD hS hA (pk (bs := [(CLK ty aC tC pC hC kC sC)]) (bsc := [(CLK ty aC tC pC hC kC sC)]) (bsr := []) [0] [] 1 rfl (by decide +kernel) rfl rfl) rfl hl.1 rfl (Nat.le_of_ble_eq_true rfl) dL_refuses_223 ⟨Nat.le_of_ble_eq_true rfl, Nat.le_of_ble_eq_true rfl⟩ (fun r_74 u_73 h_75 H locs hP hD hS => ?_)
                                      have h_r_74 : r_74 = (-999999001) := h_75
                                      subst h_r_74
                                      have hP : va_P D vwCl (fl [(CLK ty aC tC pC hC kC sC)]) H := hP
                                      have hD : va_D A (fl [(CLK ty aC tC pC hC kC sC)]) := hD
                                      refine lv_ldc hx hb hown (hts (Cond.constant RL 31 (-999999001)) (List.mem_of_getElem? (i := 3) rfl)) dL_refuses_226 ?_
                                      refine lv_icmp_ne (tgt := 283) hx hb dL_refuses_228 (by decide) (fun c_76 => ?_) (fun c_76 => ?_)
                                      · first | exact absurd c_76 (by decide) | exact absurd (by decide) c_76
                                      · skip
                                        refine lv_aload_n hx hb dL_refuses_231 rfl (lv_at hl 2 rfl) ?_
                                        refine lv_iconst (v := (-1)) hx hb dL_refuses_232 (by decide) ?_
                                        refine cSWi (As := [.ref (aC.1 0), .int (-1)]) (rest := []) ⟨hx, hb, hml, hown, hts⟩ (k_tamper_n0 l D ty (-1) aC tC pC hC kC sC hst hc ((SG_Rw hG).1) ((ninI_d (by decide +kernel)))) (vx_cwSW 2 hts gL_refuses_L_tryTamper rfl rfl rfl (by decide +kernel) ⟨Nat.le_of_ble_eq_true rfl, Nat.le_of_ble_eq_true rfl⟩) hK hX hP hD hS hA (pk (bs := [(CLK ty aC tC pC hC kC sC)]) (bsc := [(CLK ty aC tC pC hC kC sC)]) (bsr := []) [0] [] 1 rfl (by decide +kernel) rfl rfl) rfl hl.1 rfl (Nat.le_of_ble_eq_true rfl) dL_refuses_233 ⟨Nat.le_of_ble_eq_true rfl, Nat.le_of_ble_eq_true rfl⟩ (fun r_78 u_77 h_79 H locs hP hD hS => ?_)
                                        have h_r_78 : r_78 = (-999999001) := h_79
                                        subst h_r_78
                                        have hP : va_P D vwCl (fl [(CLK ty aC tC pC hC kC sC)]) H := hP
                                        have hD : va_D A (fl [(CLK ty aC tC pC hC kC sC)]) := hD
                                        refine lv_ldc hx hb hown (hts (Cond.constant RL 31 (-999999001)) (List.mem_of_getElem? (i := 3) rfl)) dL_refuses_236 ?_
                                        refine lv_icmp_ne (tgt := 283) hx hb dL_refuses_238 (by decide) (fun c_80 => ?_) (fun c_80 => ?_)
                                        · first | exact absurd c_80 (by decide) | exact absurd (by decide) c_80
                                        · skip
                                          refine lv_aload_n hx hb dL_refuses_241 rfl (lv_at hl 2 rfl) ?_
                                          refine lv_iconst (v := 4) hx hb dL_refuses_242 (by decide) ?_
                                          refine lv_sipush (v := 1441) hx hb dL_refuses_243 (by decide) ?_
                                          refine cSWi (As := [.ref (aC.1 0), .int 4, .int 1441]) (rest := []) ⟨hx, hb, hml, hown, hts⟩ (k_setAlarm_n0 l D ty 4 1441 aC tC pC hC kC sC hst hc ((ninI_d (by decide +kernel)))) (vx_cwSW 3 hts gL_refuses_L_trySetAlarm rfl rfl rfl (by decide +kernel) ⟨Nat.le_of_ble_eq_true rfl, Nat.le_of_ble_eq_true rfl⟩) hK hX hP hD hS hA (pk (bs := [(CLK ty aC tC pC hC kC sC)]) (bsc := [(CLK ty aC tC pC hC kC sC)]) (bsr := []) [0] [] 1 rfl (by decide +kernel) rfl rfl) rfl hl.1 rfl (Nat.le_of_ble_eq_true rfl) dL_refuses_246 ⟨Nat.le_of_ble_eq_true rfl, Nat.le_of_ble_eq_true rfl⟩ (fun r_82 u_81 h_83 H locs hP hD hS => ?_)
                                          have h_r_82 : r_82 = (-999999001) := h_83
                                          subst h_r_82
                                          have hP : va_P D vwCl (fl [(CLK ty aC tC pC hC kC sC)]) H := hP
                                          have hD : va_D A (fl [(CLK ty aC tC pC hC kC sC)]) := hD
                                          refine lv_ldc hx hb hown (hts (Cond.constant RL 31 (-999999001)) (List.mem_of_getElem? (i := 3) rfl)) dL_refuses_249 ?_
                                          refine lv_icmp_ne (tgt := 283) hx hb dL_refuses_251 (by decide) (fun c_84 => ?_) (fun c_84 => ?_)
                                          · first | exact absurd c_84 (by decide) | exact absurd (by decide) c_84
                                          · skip
                                            refine lv_aload_n hx hb dL_refuses_254 rfl (lv_at hl 2 rfl) ?_
                                            refine lv_iconst (v := 0) hx hb dL_refuses_255 (by decide) ?_
                                            refine lv_sipush (v := 1441) hx hb dL_refuses_256 (by decide) ?_
                                            refine cSWi (As := [.ref (aC.1 0), .int 0, .int 1441]) (rest := []) ⟨hx, hb, hml, hown, hts⟩ (k_setAlarm_n1 l D ty 0 1441 aC tC pC hC kC sC hst hc ((inI_d (by decide +kernel))) ((ninR_d (by decide +kernel)))) (vx_cwSW 3 hts gL_refuses_L_trySetAlarm rfl rfl rfl (by decide +kernel) ⟨Nat.le_of_ble_eq_true rfl, Nat.le_of_ble_eq_true rfl⟩) hK hX hP hD hS hA (pk (bs := [(CLK ty aC tC pC hC kC sC)]) (bsc := [(CLK ty aC tC pC hC kC sC)]) (bsr := []) [0] [] 1 rfl (by decide +kernel) rfl rfl) rfl hl.1 rfl (Nat.le_of_ble_eq_true rfl) dL_refuses_259 ⟨Nat.le_of_ble_eq_true rfl, Nat.le_of_ble_eq_true rfl⟩ (fun r_86 u_85 h_87 H locs hP hD hS => ?_)
                                            have h_r_86 : r_86 = (-999999002) := h_87
                                            subst h_r_86
                                            have hP : va_P D vwCl (fl [(CLK ty aC tC pC hC kC sC)]) H := hP
                                            have hD : va_D A (fl [(CLK ty aC tC pC hC kC sC)]) := hD
                                            refine lv_ldc hx hb hown (hts (Cond.constant RL 15 (-999999002)) (List.mem_of_getElem? (i := 1) rfl)) dL_refuses_262 ?_
                                            refine lv_icmp_ne (tgt := 283) hx hb dL_refuses_264 (by decide) (fun c_88 => ?_) (fun c_88 => ?_)
                                            · first | exact absurd c_88 (by decide) | exact absurd (by decide) c_88
                                            · skip
                                              refine lv_aload_n hx hb dL_refuses_267 rfl (lv_at hl 2 rfl) ?_
                                              refine lv_sipush (v := 10000) hx hb dL_refuses_268 (by decide) ?_
                                              refine cSWi (As := [.ref (aC.1 0), .int 10000]) (rest := []) ⟨hx, hb, hml, hown, hts⟩ (k_battery_n0 l D ty 10000 aC tC pC hC kC sC hst hc ((ninR_d (by decide +kernel)))) (vx_cwSW 2 hts gL_refuses_L_tryBattery rfl rfl rfl (by decide +kernel) ⟨Nat.le_of_ble_eq_true rfl, Nat.le_of_ble_eq_true rfl⟩) hK hX hP hD hS hA (pk (bs := [(CLK ty aC tC pC hC kC sC)]) (bsc := [(CLK ty aC tC pC hC kC sC)]) (bsr := []) [0] [] 1 rfl (by decide +kernel) rfl rfl) rfl hl.1 rfl (Nat.le_of_ble_eq_true rfl) dL_refuses_271 ⟨Nat.le_of_ble_eq_true rfl, Nat.le_of_ble_eq_true rfl⟩ (fun r_90 u_89 h_91 H locs hP hD hS => ?_)
                                              have h_r_90 : r_90 = (-999999002) := h_91
                                              subst h_r_90
                                              have hP : va_P D vwCl (fl [(CLK ty aC tC pC hC kC sC)]) H := hP
                                              have hD : va_D A (fl [(CLK ty aC tC pC hC kC sC)]) := hD
                                              refine lv_ldc hx hb hown (hts (Cond.constant RL 15 (-999999002)) (List.mem_of_getElem? (i := 1) rfl)) dL_refuses_274 ?_
                                              refine lv_icmp_ne (tgt := 283) hx hb dL_refuses_276 (by decide) (fun c_92 => ?_) (fun c_92 => ?_)
                                              · first | exact absurd c_92 (by decide) | exact absurd (by decide) c_92
                                              · skip
                                                refine lv_iconst (v := 1) hx hb dL_refuses_279 (by decide) ?_
                                                refine lv_goto (tgt := 284) hx hb dL_refuses_280 (by decide) ?_
                                                refine lv_istore_n (lv' := [(3, .int 1), (2, .int 0), (1, .int (pC.1 11)), (0, .ref (aC.1 0))]) hx hb dL_refuses_284 rfl hl (by decide) rfl (fun ls hl => ?_)
                                                refine lv_iload_n hx hb dL_refuses_285 rfl (lv_at hl 0 rfl) ?_
                                                refine lv_if_eq (tgt := 348) hx hb dL_refuses_286 (by decide) (fun c_93 => ?_) (fun c_93 => ?_)
                                                · exact absurd c_93 (by decide)
                                                · skip
                                                  refine lv_iload_n hx hb dL_refuses_289 rfl (lv_at hl 1 rfl) ?_
                                                  refine lv_if_eq (tgt := 344) hx hb dL_refuses_290 (by decide) (fun c_94 => ?_) (fun c_94 => ?_)
                                                  · skip
                                                    refine lv_iconst (v := 1) hx hb dL_refuses_344 (by decide) ?_
                                                    refine lv_goto (tgt := 349) hx hb dL_refuses_345 (by decide) ?_
                                                    refine lv_istore_n (lv' := [(3, .int 1), (2, .int 0), (1, .int (pC.1 11)), (0, .ref (aC.1 0))]) hx hb dL_refuses_349 rfl hl (by decide) rfl (fun ls hl => ?_)
                                                    refine lv_iload_n hx hb dL_refuses_350 rfl (lv_at hl 0 rfl) ?_
                                                    refine lv_if_eq (tgt := 483) hx hb dL_refuses_351 (by decide) (fun c_95 => ?_) (fun c_95 => ?_)
                                                    · exact absurd c_95 (by decide)
                                                    · skip
                                                      refine lv_aload_n hx hb dL_refuses_354 rfl (lv_at hl 3 rfl) ?_
                                                      refine lv_sipush (v := 1441) hx hb dL_refuses_355 (by decide) ?_
                                                      refine lv_iconst (v := 0) hx hb dL_refuses_358 (by decide) ?_
                                                      refine cSWi (As := [.ref (aC.1 0), .int 1441, .int 0]) (rest := []) ⟨hx, hb, hml, hown, hts⟩ (k_ahead_n0 l D ty 1441 0 aC tC pC hC kC sC hst ((SG_Iw hG)) ((ninR_d (by decide +kernel)))) (vx_cwSW 3 hts gL_refuses_L_tryAhead rfl rfl rfl (by decide +kernel) ⟨Nat.le_of_ble_eq_true rfl, Nat.le_of_ble_eq_true rfl⟩) hK hX hP hD hS hA (pk (bs := [(CLK ty aC tC pC hC kC sC)]) (bsc := [(CLK ty aC tC pC hC kC sC)]) (bsr := []) [0] [] 1 rfl (by decide +kernel) rfl rfl) rfl hl.1 rfl (Nat.le_of_ble_eq_true rfl) dL_refuses_359 ⟨Nat.le_of_ble_eq_true rfl, Nat.le_of_ble_eq_true rfl⟩ (fun r_97 u_96 h_98 H locs hP hD hS => ?_)
                                                      have h_r_97 : r_97 = (-999999002) := h_98
                                                      subst h_r_97
                                                      have hP : va_P D vwCl (fl [(CLK ty aC tC pC hC kC sC)]) H := hP
                                                      have hD : va_D A (fl [(CLK ty aC tC pC hC kC sC)]) := hD
                                                      refine lv_ldc hx hb hown (hts (Cond.constant RL 15 (-999999002)) (List.mem_of_getElem? (i := 1) rfl)) dL_refuses_362 ?_
                                                      refine lv_icmp_ne (tgt := 483) hx hb dL_refuses_364 (by decide) (fun c_99 => ?_) (fun c_99 => ?_)
                                                      · first | exact absurd c_99 (by decide) | exact absurd (by decide) c_99
                                                      · skip
                                                        refine lv_aload_n hx hb dL_refuses_367 rfl (lv_at hl 3 rfl) ?_
                                                        refine lv_iconst (v := 0) hx hb dL_refuses_368 (by decide) ?_
                                                        refine lv_bipush (v := 6) hx hb dL_refuses_369 (by decide) ?_
                                                        refine cSWi (As := [.ref (aC.1 0), .int 0, .int 6]) (rest := []) ⟨hx, hb, hml, hown, hts⟩ (k_ahead_n1 l D ty 0 6 aC tC pC hC kC sC hst ((SG_Iw hG)) ((inR_d (by decide +kernel))) ((ninR_d (by decide +kernel)))) (vx_cwSW 3 hts gL_refuses_L_tryAhead rfl rfl rfl (by decide +kernel) ⟨Nat.le_of_ble_eq_true rfl, Nat.le_of_ble_eq_true rfl⟩) hK hX hP hD hS hA (pk (bs := [(CLK ty aC tC pC hC kC sC)]) (bsc := [(CLK ty aC tC pC hC kC sC)]) (bsr := []) [0] [] 1 rfl (by decide +kernel) rfl rfl) rfl hl.1 rfl (Nat.le_of_ble_eq_true rfl) dL_refuses_371 ⟨Nat.le_of_ble_eq_true rfl, Nat.le_of_ble_eq_true rfl⟩ (fun r_101 u_100 h_102 H locs hP hD hS => ?_)
                                                        have h_r_101 : r_101 = (-999999002) := h_102
                                                        subst h_r_101
                                                        have hP : va_P D vwCl (fl [(CLK ty aC tC pC hC kC sC)]) H := hP
                                                        have hD : va_D A (fl [(CLK ty aC tC pC hC kC sC)]) := hD
                                                        refine lv_ldc hx hb hown (hts (Cond.constant RL 15 (-999999002)) (List.mem_of_getElem? (i := 1) rfl)) dL_refuses_374 ?_
                                                        refine lv_icmp_ne (tgt := 483) hx hb dL_refuses_376 (by decide) (fun c_103 => ?_) (fun c_103 => ?_)
                                                        · first | exact absurd c_103 (by decide) | exact absurd (by decide) c_103
                                                        · skip
                                                          refine lv_aload_n hx hb dL_refuses_379 rfl (lv_at hl 3 rfl) ?_
                                                          refine lv_iconst (v := 4) hx hb dL_refuses_380 (by decide) ?_
                                                          refine cSWi (As := [.ref (aC.1 0), .int 4]) (rest := []) ⟨hx, hb, hml, hown, hts⟩ (k_dueAfter_n0 l D ty 4 aC tC pC hC kC sC hst ((SG_Iw hG)) ((ninI_d (by decide +kernel)))) (vx_cwSW 2 hts gL_refuses_L_tryDueAfter rfl rfl rfl (by decide +kernel) ⟨Nat.le_of_ble_eq_true rfl, Nat.le_of_ble_eq_true rfl⟩) hK hX hP hD hS hA (pk (bs := [(CLK ty aC tC pC hC kC sC)]) (bsc := [(CLK ty aC tC pC hC kC sC)]) (bsr := []) [0] [] 1 rfl (by decide +kernel) rfl rfl) rfl hl.1 rfl (Nat.le_of_ble_eq_true rfl) dL_refuses_381 ⟨Nat.le_of_ble_eq_true rfl, Nat.le_of_ble_eq_true rfl⟩ (fun r_105 u_104 h_106 H locs hP hD hS => ?_)
                                                          have h_r_105 : r_105 = (-999999001) := h_106
                                                          subst h_r_105
                                                          have hP : va_P D vwCl (fl [(CLK ty aC tC pC hC kC sC)]) H := hP
                                                          have hD : va_D A (fl [(CLK ty aC tC pC hC kC sC)]) := hD
                                                          refine lv_ldc hx hb hown (hts (Cond.constant RL 31 (-999999001)) (List.mem_of_getElem? (i := 3) rfl)) dL_refuses_384 ?_
                                                          refine lv_icmp_ne (tgt := 483) hx hb dL_refuses_386 (by decide) (fun c_107 => ?_) (fun c_107 => ?_)
                                                          · first | exact absurd c_107 (by decide) | exact absurd (by decide) c_107
                                                          · skip
                                                            refine lv_aload_n hx hb dL_refuses_389 rfl (lv_at hl 3 rfl) ?_
                                                            refine lv_iconst (v := 0) hx hb dL_refuses_390 (by decide) ?_
                                                            refine cSWi (As := [.ref (aC.1 0), .int 0]) (rest := []) ⟨hx, hb, hml, hown, hts⟩ (k_bestCorrection_n0 l D ty 0 aC tC pC hC kC sC hst ((ninR_d (by decide +kernel)))) (vx_cwSW 2 hts gL_refuses_L_tryBestCorrection rfl rfl rfl (by decide +kernel) ⟨Nat.le_of_ble_eq_true rfl, Nat.le_of_ble_eq_true rfl⟩) hK hX hP hD hS hA (pk (bs := [(CLK ty aC tC pC hC kC sC)]) (bsc := [(CLK ty aC tC pC hC kC sC)]) (bsr := []) [0] [] 1 rfl (by decide +kernel) rfl rfl) rfl hl.1 rfl (Nat.le_of_ble_eq_true rfl) dL_refuses_391 ⟨Nat.le_of_ble_eq_true rfl, Nat.le_of_ble_eq_true rfl⟩ (fun r_109 u_108 h_110 H locs hP hD hS => ?_)
                                                            have h_r_109 : r_109 = (-999999002) := h_110
                                                            subst h_r_109
                                                            have hP : va_P D vwCl (fl [(CLK ty aC tC pC hC kC sC)]) H := hP
                                                            have hD : va_D A (fl [(CLK ty aC tC pC hC kC sC)]) := hD
                                                            refine lv_ldc hx hb hown (hts (Cond.constant RL 15 (-999999002)) (List.mem_of_getElem? (i := 1) rfl)) dL_refuses_394 ?_
                                                            refine lv_icmp_ne (tgt := 483) hx hb dL_refuses_396 (by decide) (fun c_111 => ?_) (fun c_111 => ?_)
                                                            · first | exact absurd c_111 (by decide) | exact absurd (by decide) c_111
                                                            · skip
                                                              refine lv_aload_n hx hb dL_refuses_399 rfl (lv_at hl 3 rfl) ?_
                                                              refine lv_sipush (v := 601) hx hb dL_refuses_400 (by decide) ?_
                                                              refine cSWi (As := [.ref (aC.1 0), .int 601]) (rest := []) ⟨hx, hb, hml, hown, hts⟩ (k_bestCorrection_n0 l D ty 601 aC tC pC hC kC sC hst ((ninR_d (by decide +kernel)))) (vx_cwSW 2 hts gL_refuses_L_tryBestCorrection rfl rfl rfl (by decide +kernel) ⟨Nat.le_of_ble_eq_true rfl, Nat.le_of_ble_eq_true rfl⟩) hK hX hP hD hS hA (pk (bs := [(CLK ty aC tC pC hC kC sC)]) (bsc := [(CLK ty aC tC pC hC kC sC)]) (bsr := []) [0] [] 1 rfl (by decide +kernel) rfl rfl) rfl hl.1 rfl (Nat.le_of_ble_eq_true rfl) dL_refuses_403 ⟨Nat.le_of_ble_eq_true rfl, Nat.le_of_ble_eq_true rfl⟩ (fun r_113 u_112 h_114 H locs hP hD hS => ?_)
                                                              have h_r_113 : r_113 = (-999999002) := h_114
                                                              subst h_r_113
                                                              have hP : va_P D vwCl (fl [(CLK ty aC tC pC hC kC sC)]) H := hP
                                                              have hD : va_D A (fl [(CLK ty aC tC pC hC kC sC)]) := hD
                                                              refine lv_ldc hx hb hown (hts (Cond.constant RL 15 (-999999002)) (List.mem_of_getElem? (i := 1) rfl)) dL_refuses_406 ?_
                                                              refine lv_icmp_ne (tgt := 483) hx hb dL_refuses_408 (by decide) (fun c_115 => ?_) (fun c_115 => ?_)
                                                              · first | exact absurd c_115 (by decide) | exact absurd (by decide) c_115
                                                              · skip
                                                                refine lv_aload_n hx hb dL_refuses_411 rfl (lv_at hl 3 rfl) ?_
                                                                refine lv_iconst (v := 4) hx hb dL_refuses_412 (by decide) ?_
                                                                refine lv_lconst (v := 0) hx hb dL_refuses_413 (by decide) ?_
                                                                refine cSWi (As := [.ref (aC.1 0), .int 4, .long 0]) (rest := []) ⟨hx, hb, hml, hown, hts⟩ (k_runScriptN_n0 l D ty 4 0 aC tC pC hC kC sC hst ((fun q => absurd q (ninR_d (by decide +kernel))))) (vx_cwSW 3 hts gL_refuses_L_tryScript rfl rfl rfl (by decide +kernel) ⟨Nat.le_of_ble_eq_true rfl, Nat.le_of_ble_eq_true rfl⟩) hK hX hP hD hS hA (pk (bs := [(CLK ty aC tC pC hC kC sC)]) (bsc := [(CLK ty aC tC pC hC kC sC)]) (bsr := []) [0] [] 1 rfl (by decide +kernel) rfl rfl) rfl hl.1 rfl (Nat.le_of_ble_eq_true rfl) dL_refuses_414 ⟨Nat.le_of_ble_eq_true rfl, Nat.le_of_ble_eq_true rfl⟩ (fun r_117 u_116 h_118 H locs hP hD hS => ?_)
                                                                have h_r_117 : r_117 = (-999999002) := h_118
                                                                subst h_r_117
                                                                have hP : va_P D vwCl (fl [(CLK ty aC tC pC hC kC sC)]) H := hP
                                                                have hD : va_D A (fl [(CLK ty aC tC pC hC kC sC)]) := hD
                                                                refine lv_ldc hx hb hown (hts (Cond.constant RL 15 (-999999002)) (List.mem_of_getElem? (i := 1) rfl)) dL_refuses_417 ?_
                                                                refine lv_icmp_ne (tgt := 483) hx hb dL_refuses_419 (by decide) (fun c_119 => ?_) (fun c_119 => ?_)
                                                                · first | exact absurd c_119 (by decide) | exact absurd (by decide) c_119
                                                                · skip
                                                                  refine lv_aload_n hx hb dL_refuses_422 rfl (lv_at hl 3 rfl) ?_
                                                                  refine lv_iconst (v := 1) hx hb dL_refuses_423 (by decide) ?_
                                                                  refine lv_ldc2 hx hb hown (hts (Cond.constantLong RL 215 (100000)) (List.mem_of_getElem? (i := 6) rfl)) dL_refuses_424 ?_
                                                                  refine cSWi (As := [.ref (aC.1 0), .int 1, .long 100000]) (rest := []) ⟨hx, hb, hml, hown, hts⟩ (k_runScript1_n0 l D ty 100000 aC tC pC hC kC sC hst ((by omega)) ((SG_Pw hG)) ((by omega))) (vx_cwSW 3 hts gL_refuses_L_tryScript rfl rfl rfl (by decide +kernel) ⟨Nat.le_of_ble_eq_true rfl, Nat.le_of_ble_eq_true rfl⟩) hK hX hP hD hS hA (pk (bs := [(CLK ty aC tC pC hC kC sC)]) (bsc := [(CLK ty aC tC pC hC kC sC)]) (bsr := []) [0] [] 1 rfl (by decide +kernel) rfl rfl) rfl hl.1 rfl (Nat.le_of_ble_eq_true rfl) dL_refuses_427 ⟨Nat.le_of_ble_eq_true rfl, Nat.le_of_ble_eq_true rfl⟩ (fun r_121 u_120 h_122 H locs hP hD hS => ?_)
                                                                  have h_r_121 : r_121 = (-999999002) := h_122
                                                                  subst h_r_121
                                                                  have hP : va_P D vwCl (fl [(CLK ty aC tC pC hC kC sC)]) H := hP
                                                                  have hD : va_D A (fl [(CLK ty aC tC pC hC kC sC)]) := hD
                                                                  refine lv_ldc hx hb hown (hts (Cond.constant RL 15 (-999999002)) (List.mem_of_getElem? (i := 1) rfl)) dL_refuses_430 ?_
                                                                  refine lv_icmp_ne (tgt := 483) hx hb dL_refuses_432 (by decide) (fun c_123 => ?_) (fun c_123 => ?_)
                                                                  · first | exact absurd c_123 (by decide) | exact absurd (by decide) c_123
                                                                  · skip
                                                                    refine lv_aload_n hx hb dL_refuses_435 rfl (lv_at hl 3 rfl) ?_
                                                                    refine lv_lconst (v := 1) hx hb dL_refuses_436 (by decide) ?_
                                                                    refine lv_bipush (v := 61) hx hb dL_refuses_437 (by decide) ?_
                                                                    refine cSWi (As := [.ref (aC.1 0), .long 1, .int 61]) (rest := []) ⟨hx, hb, hml, hown, hts⟩ (k_simulateN_n0 l D ty 1 61 aC tC pC hC kC sC hst ((ninR_d (by decide +kernel)))) (vx_cwSW 3 hts gL_refuses_L_trySimulate rfl rfl rfl (by decide +kernel) ⟨Nat.le_of_ble_eq_true rfl, Nat.le_of_ble_eq_true rfl⟩) hK hX hP hD hS hA (pk (bs := [(CLK ty aC tC pC hC kC sC)]) (bsc := [(CLK ty aC tC pC hC kC sC)]) (bsr := []) [0] [] 1 rfl (by decide +kernel) rfl rfl) rfl hl.1 rfl (Nat.le_of_ble_eq_true rfl) dL_refuses_439 ⟨Nat.le_of_ble_eq_true rfl, Nat.le_of_ble_eq_true rfl⟩ (fun r_125 u_124 h_126 H locs hP hD hS => ?_)
                                                                    have h_r_125 : r_125 = (-999999002) := h_126
                                                                    subst h_r_125
                                                                    have hP : va_P D vwCl (fl [(CLK ty aC tC pC hC kC sC)]) H := hP
                                                                    have hD : va_D A (fl [(CLK ty aC tC pC hC kC sC)]) := hD
                                                                    refine lv_ldc hx hb hown (hts (Cond.constant RL 15 (-999999002)) (List.mem_of_getElem? (i := 1) rfl)) dL_refuses_442 ?_
                                                                    refine lv_icmp_ne (tgt := 483) hx hb dL_refuses_444 (by decide) (fun c_127 => ?_) (fun c_127 => ?_)
                                                                    · first | exact absurd c_127 (by decide) | exact absurd (by decide) c_127
                                                                    · skip
                                                                      refine lv_aload_n hx hb dL_refuses_447 rfl (lv_at hl 3 rfl) ?_
                                                                      refine lv_iconst (v := 2) hx hb dL_refuses_448 (by decide) ?_
                                                                      refine cSWi (As := [.ref (aC.1 0), .int 2]) (rest := []) ⟨hx, hb, hml, hown, hts⟩ (k_save_n0 l D ty 2 aC tC pC hC kC sC hst ((ninI_d (by decide +kernel)))) (vx_cwSW 2 hts gL_refuses_L_trySave rfl rfl rfl (by decide +kernel) ⟨Nat.le_of_ble_eq_true rfl, Nat.le_of_ble_eq_true rfl⟩) hK hX hP hD hS hA (pk (bs := [(CLK ty aC tC pC hC kC sC)]) (bsc := [(CLK ty aC tC pC hC kC sC)]) (bsr := []) [0] [] 1 rfl (by decide +kernel) rfl rfl) rfl hl.1 rfl (Nat.le_of_ble_eq_true rfl) dL_refuses_449 ⟨Nat.le_of_ble_eq_true rfl, Nat.le_of_ble_eq_true rfl⟩ (fun r_129 u_128 h_130 H locs hP hD hS => ?_)
                                                                      have h_r_129 : r_129 = (-999999001) := h_130
                                                                      subst h_r_129
                                                                      have hP : va_P D vwCl (fl [(CLK ty aC tC pC hC kC sC)]) H := hP
                                                                      have hD : va_D A (fl [(CLK ty aC tC pC hC kC sC)]) := hD
                                                                      refine lv_ldc hx hb hown (hts (Cond.constant RL 31 (-999999001)) (List.mem_of_getElem? (i := 3) rfl)) dL_refuses_452 ?_
                                                                      refine lv_icmp_ne (tgt := 483) hx hb dL_refuses_454 (by decide) (fun c_131 => ?_) (fun c_131 => ?_)
                                                                      · first | exact absurd c_131 (by decide) | exact absurd (by decide) c_131
                                                                      · skip
                                                                        refine lv_aload_n hx hb dL_refuses_457 rfl (lv_at hl 3 rfl) ?_
                                                                        refine lv_iconst (v := (-1)) hx hb dL_refuses_458 (by decide) ?_
                                                                        refine cSWi (As := [.ref (aC.1 0), .int (-1)]) (rest := []) ⟨hx, hb, hml, hown, hts⟩ (k_restore_n0 l D ty (-1) aC tC pC hC kC sC hst ((ninI_d (by decide +kernel)))) (vx_cwSW 2 hts gL_refuses_L_tryRestore rfl rfl rfl (by decide +kernel) ⟨Nat.le_of_ble_eq_true rfl, Nat.le_of_ble_eq_true rfl⟩) hK hX hP hD hS hA (pk (bs := [(CLK ty aC tC pC hC kC sC)]) (bsc := [(CLK ty aC tC pC hC kC sC)]) (bsr := []) [0] [] 1 rfl (by decide +kernel) rfl rfl) rfl hl.1 rfl (Nat.le_of_ble_eq_true rfl) dL_refuses_459 ⟨Nat.le_of_ble_eq_true rfl, Nat.le_of_ble_eq_true rfl⟩ (fun r_133 u_132 h_134 H locs hP hD hS => ?_)
                                                                        have h_r_133 : r_133 = (-999999001) := h_134
                                                                        subst h_r_133
                                                                        have hP : va_P D vwCl (fl [(CLK ty aC tC pC hC kC sC)]) H := hP
                                                                        have hD : va_D A (fl [(CLK ty aC tC pC hC kC sC)]) := hD
                                                                        refine lv_ldc hx hb hown (hts (Cond.constant RL 31 (-999999001)) (List.mem_of_getElem? (i := 3) rfl)) dL_refuses_462 ?_
                                                                        refine lv_icmp_ne (tgt := 483) hx hb dL_refuses_464 (by decide) (fun c_135 => ?_) (fun c_135 => ?_)
                                                                        · first | exact absurd c_135 (by decide) | exact absurd (by decide) c_135
                                                                        · skip
                                                                          refine lv_aload_n hx hb dL_refuses_467 rfl (lv_at hl 3 rfl) ?_
                                                                          refine lv_sipush (v := 256) hx hb dL_refuses_468 (by decide) ?_
                                                                          refine cSWi (As := [.ref (aC.1 0), .int 256]) (rest := []) ⟨hx, hb, hml, hown, hts⟩ (k_append_n0 l D ty 256 aC tC pC hC kC sC hst hl6 ((ninR_d (by decide +kernel)))) (vx_cwSW 2 hts gL_refuses_L_tryAppend rfl rfl rfl (by decide +kernel) ⟨Nat.le_of_ble_eq_true rfl, Nat.le_of_ble_eq_true rfl⟩) hK hX hP hD hS hA (pk (bs := [(CLK ty aC tC pC hC kC sC)]) (bsc := [(CLK ty aC tC pC hC kC sC)]) (bsr := []) [0] [] 1 rfl (by decide +kernel) rfl rfl) rfl hl.1 rfl (Nat.le_of_ble_eq_true rfl) dL_refuses_471 ⟨Nat.le_of_ble_eq_true rfl, Nat.le_of_ble_eq_true rfl⟩ (fun r_137 u_136 h_138 H locs hP hD hS => ?_)
                                                                          have h_r_137 : r_137 = (-999999002) := h_138
                                                                          subst h_r_137
                                                                          have hP : va_P D vwCl (fl [(CLK ty aC tC pC hC kC sC)]) H := hP
                                                                          have hD : va_D A (fl [(CLK ty aC tC pC hC kC sC)]) := hD
                                                                          refine lv_ldc hx hb hown (hts (Cond.constant RL 15 (-999999002)) (List.mem_of_getElem? (i := 1) rfl)) dL_refuses_474 ?_
                                                                          refine lv_icmp_ne (tgt := 483) hx hb dL_refuses_476 (by decide) (fun c_139 => ?_) (fun c_139 => ?_)
                                                                          · first | exact absurd c_139 (by decide) | exact absurd (by decide) c_139
                                                                          · skip
                                                                            refine lv_iconst (v := 1) hx hb dL_refuses_479 (by decide) ?_
                                                                            refine lv_goto (tgt := 484) hx hb dL_refuses_480 (by decide) ?_
                                                                            subst hQg
                                                                            have hP : va_P D vwCl (fl [(CLK ty aC tC pC hC kC sC)]) H := hP
                                                                            have hD : va_D A (fl [(CLK ty aC tC pC hC kC sC)]) := hD
                                                                            exact end_z (bs' := (fun (_ : Unit) => [(CLK ty aC tC pC hC kC sC)])) () hx hb hr hlocks rfl hP hD hS rfl (Nat.le_of_ble_eq_true rfl) (Nat.le_of_ble_eq_true rfl) dL_refuses_484
                                                  · exact absurd (by decide) c_94
              refine lv_iload_n hx hb dL_refuses_78 rfl (lv_at hl 1 rfl) ?_
              refine lv_if_eq (tgt := 93) hx hb dL_refuses_79 (by decide) (fun c_140 => ?_) (fun c_140 => ?_)
              · skip
                refine W.widen (k := 10) (n := 60) (Nat.le_of_ble_eq_true rfl) (Nat.le_of_ble_eq_true rfl) ?_
                exact hJ93_27 _ _ hP hD hS _ (lv_sub hl [0, 1, 2] rfl)
              · skip
                refine lv_aload_n hx hb dL_refuses_82 rfl (lv_at hl 2 rfl) ?_
                refine lv_iconst (v := 0) hx hb dL_refuses_83 (by decide) ?_
                refine lv_iconst (v := 3) hx hb dL_refuses_84 (by decide) ?_
                refine cSWi (As := [.ref (aC.1 0), .int 0, .int 3]) (rest := []) ⟨hx, hb, hml, hown, hts⟩ (k_row_n1 l D ty 0 3 aC tC pC hC kC sC hst ((SG_Rw hG).2) ((inI_0 (SG_Rw hG) c_140)) ((ninR_d (by decide +kernel)))) (vx_cwSW 3 hts gL_refuses_L_tryRow rfl rfl rfl (by decide +kernel) ⟨Nat.le_of_ble_eq_true rfl, Nat.le_of_ble_eq_true rfl⟩) hK hX hP hD hS hA (pk (bs := [(CLK ty aC tC pC hC kC sC)]) (bsc := [(CLK ty aC tC pC hC kC sC)]) (bsr := []) [0] [] 1 rfl (by decide +kernel) rfl rfl) rfl hl.1 rfl (Nat.le_of_ble_eq_true rfl) dL_refuses_85 ⟨Nat.le_of_ble_eq_true rfl, Nat.le_of_ble_eq_true rfl⟩ (fun r_142 u_141 h_143 H locs hP hD hS => ?_)
                have h_r_142 : r_142 = (-999999002) := h_143
                subst h_r_142
                have hP : va_P D vwCl (fl [(CLK ty aC tC pC hC kC sC)]) H := hP
                have hD : va_D A (fl [(CLK ty aC tC pC hC kC sC)]) := hD
                refine lv_ldc hx hb hown (hts (Cond.constant RL 15 (-999999002)) (List.mem_of_getElem? (i := 1) rfl)) dL_refuses_88 ?_
                refine lv_icmp_ne (tgt := 283) hx hb dL_refuses_90 (by decide) (fun c_144 => ?_) (fun c_144 => ?_)
                · first | exact absurd c_144 (by decide) | exact absurd (by decide) c_144
                · skip
                  exact hJ93_27 _ _ hP hD hS _ (lv_sub hl [0, 1, 2] rfl)
  · skip
    refine lv_iconst (v := 1) hx hb dL_refuses_16 (by decide) ?_
    refine lv_goto (tgt := 21) hx hb dL_refuses_17 (by decide) ?_
    refine lv_istore_n (lv' := [(2, .int 1), (1, .int (pC.1 11)), (0, .ref (aC.1 0))]) hx hb dL_refuses_21 rfl hl (by decide) rfl (fun ls hl => ?_)
    refine lv_aload_n hx hb dL_refuses_22 rfl (lv_at hl 2 rfl) ?_
    refine lv_bipush (v := 15) hx hb dL_refuses_23 (by decide) ?_
    refine cSWi (As := [.ref (aC.1 0), .int 15]) (rest := []) ⟨hx, hb, hml, hown, hts⟩ (k_about_n0 l D ty 15 aC tC pC hC kC sC hst ((ninR_d (by decide +kernel)))) (vx_cwSW 2 hts gL_refuses_L_tryAbout rfl rfl rfl (by decide +kernel) ⟨Nat.le_of_ble_eq_true rfl, Nat.le_of_ble_eq_true rfl⟩) hK hX hP hD hS hA (pk (bs := [(CLK ty aC tC pC hC kC sC)]) (bsc := [(CLK ty aC tC pC hC kC sC)]) (bsr := []) [0] [] 1 rfl (by decide +kernel) rfl rfl) rfl hl.1 rfl (Nat.le_of_ble_eq_true rfl) dL_refuses_25 ⟨Nat.le_of_ble_eq_true rfl, Nat.le_of_ble_eq_true rfl⟩ (fun r_146 u_145 h_147 H locs hP hD hS => ?_)
    have h_r_146 : r_146 = (-999999002) := h_147
    subst h_r_146
    have hP : va_P D vwCl (fl [(CLK ty aC tC pC hC kC sC)]) H := hP
    have hD : va_D A (fl [(CLK ty aC tC pC hC kC sC)]) := hD
    refine lv_ldc hx hb hown (hts (Cond.constant RL 15 (-999999002)) (List.mem_of_getElem? (i := 1) rfl)) dL_refuses_28 ?_
    refine lv_icmp_ne (tgt := 283) hx hb dL_refuses_30 (by decide) (fun c_148 => ?_) (fun c_148 => ?_)
    · first | exact absurd c_148 (by decide) | exact absurd (by decide) c_148
    · skip
      refine lv_aload_n hx hb dL_refuses_33 rfl (lv_at hl 2 rfl) ?_
      refine lv_bipush (v := 6) hx hb dL_refuses_34 (by decide) ?_
      refine cSWl (As := [.ref (aC.1 0), .int 6]) (rest := []) ⟨hx, hb, hml, hown, hts⟩ (k_account_n0 l D ty 6 aC tC pC hC kC sC hst ((ninR_d (by decide +kernel)))) (vx_cwSW 2 hts gL_refuses_L_account rfl rfl rfl (by decide +kernel) ⟨Nat.le_of_ble_eq_true rfl, Nat.le_of_ble_eq_true rfl⟩) hK hX hP hD hS hA (pk (bs := [(CLK ty aC tC pC hC kC sC)]) (bsc := [(CLK ty aC tC pC hC kC sC)]) (bsr := []) [0] [] 1 rfl (by decide +kernel) rfl rfl) rfl hl.1 rfl (Nat.le_of_ble_eq_true rfl) dL_refuses_36 ⟨Nat.le_of_ble_eq_true rfl, Nat.le_of_ble_eq_true rfl⟩ (fun r_150 u_149 h_151 H locs hP hD hS => ?_)
      have h_r_150 : r_150 = (-999999002) := h_151
      subst h_r_150
      have hP : va_P D vwCl (fl [(CLK ty aC tC pC hC kC sC)]) H := hP
      have hD : va_D A (fl [(CLK ty aC tC pC hC kC sC)]) := hD
      refine lv_ldc2 hx hb hown (hts (Cond.constantLong RL 107 (-999999002)) (List.mem_of_getElem? (i := 2) rfl)) dL_refuses_39 ?_
      refine W.lcmp hx hb dL_refuses_42 ?_
      refine W.eq (g2 := F0 m 43 ls [.int 0]) (by rw [show lg_cmp (-999999002) (-999999002) = 0 from by decide +kernel]) ?_
      refine lv_if_ne (tgt := 283) hx hb dL_refuses_43 (by decide) (fun c_152 => ?_) (fun c_152 => ?_)
      · first | exact absurd c_152 (by decide) | exact absurd (by decide) c_152
      · skip
        refine lv_aload_n hx hb dL_refuses_46 rfl (lv_at hl 2 rfl) ?_
        refine lv_bipush (v := 8) hx hb dL_refuses_47 (by decide) ?_
        refine cSWi (As := [.ref (aC.1 0), .int 8]) (rest := []) ⟨hx, hb, hml, hown, hts⟩ (k_register_n0 l D ty 8 aC tC pC hC kC sC hst ((ninI_d (by decide +kernel)))) (vx_cwSW 2 hts gL_refuses_L_tryRegister rfl rfl rfl (by decide +kernel) ⟨Nat.le_of_ble_eq_true rfl, Nat.le_of_ble_eq_true rfl⟩) hK hX hP hD hS hA (pk (bs := [(CLK ty aC tC pC hC kC sC)]) (bsc := [(CLK ty aC tC pC hC kC sC)]) (bsr := []) [0] [] 1 rfl (by decide +kernel) rfl rfl) rfl hl.1 rfl (Nat.le_of_ble_eq_true rfl) dL_refuses_49 ⟨Nat.le_of_ble_eq_true rfl, Nat.le_of_ble_eq_true rfl⟩ (fun r_154 u_153 h_155 H locs hP hD hS => ?_)
        have h_r_154 : r_154 = (-999999001) := h_155
        subst h_r_154
        have hP : va_P D vwCl (fl [(CLK ty aC tC pC hC kC sC)]) H := hP
        have hD : va_D A (fl [(CLK ty aC tC pC hC kC sC)]) := hD
        refine lv_ldc hx hb hown (hts (Cond.constant RL 31 (-999999001)) (List.mem_of_getElem? (i := 3) rfl)) dL_refuses_52 ?_
        refine lv_icmp_ne (tgt := 283) hx hb dL_refuses_54 (by decide) (fun c_156 => ?_) (fun c_156 => ?_)
        · first | exact absurd c_156 (by decide) | exact absurd (by decide) c_156
        · skip
          refine lv_aload_n hx hb dL_refuses_57 rfl (lv_at hl 2 rfl) ?_
          refine lv_iconst (v := 3) hx hb dL_refuses_58 (by decide) ?_
          refine cSWi (As := [.ref (aC.1 0), .int 3]) (rest := []) ⟨hx, hb, hml, hown, hts⟩ (k_isGuarded_n0 l D ty 3 aC tC pC hC kC sC hst ((ninI_d (by decide +kernel)))) (vx_cwSW 2 hts gL_refuses_L_tryIsGuarded rfl rfl rfl (by decide +kernel) ⟨Nat.le_of_ble_eq_true rfl, Nat.le_of_ble_eq_true rfl⟩) hK hX hP hD hS hA (pk (bs := [(CLK ty aC tC pC hC kC sC)]) (bsc := [(CLK ty aC tC pC hC kC sC)]) (bsr := []) [0] [] 1 rfl (by decide +kernel) rfl rfl) rfl hl.1 rfl (Nat.le_of_ble_eq_true rfl) dL_refuses_59 ⟨Nat.le_of_ble_eq_true rfl, Nat.le_of_ble_eq_true rfl⟩ (fun r_158 u_157 h_159 H locs hP hD hS => ?_)
          have h_r_158 : r_158 = (-999999001) := h_159
          subst h_r_158
          have hP : va_P D vwCl (fl [(CLK ty aC tC pC hC kC sC)]) H := hP
          have hD : va_D A (fl [(CLK ty aC tC pC hC kC sC)]) := hD
          refine lv_ldc hx hb hown (hts (Cond.constant RL 31 (-999999001)) (List.mem_of_getElem? (i := 3) rfl)) dL_refuses_62 ?_
          refine lv_icmp_ne (tgt := 283) hx hb dL_refuses_64 (by decide) (fun c_160 => ?_) (fun c_160 => ?_)
          · first | exact absurd c_160 (by decide) | exact absurd (by decide) c_160
          · skip
            refine lv_aload_n hx hb dL_refuses_67 rfl (lv_at hl 2 rfl) ?_
            refine lv_iload_n hx hb dL_refuses_68 rfl (lv_at hl 1 rfl) ?_
            refine lv_iconst (v := 3) hx hb dL_refuses_69 (by decide) ?_
            refine cSWi (As := [.ref (aC.1 0), .int (pC.1 11), .int 3]) (rest := []) ⟨hx, hb, hml, hown, hts⟩ (k_row_n0 l D ty (pC.1 11) 3 aC tC pC hC kC sC hst ((SG_Rw hG).2) ((ninI_self _))) (vx_cwSW 3 hts gL_refuses_L_tryRow rfl rfl rfl (by decide +kernel) ⟨Nat.le_of_ble_eq_true rfl, Nat.le_of_ble_eq_true rfl⟩) hK hX hP hD hS hA (pk (bs := [(CLK ty aC tC pC hC kC sC)]) (bsc := [(CLK ty aC tC pC hC kC sC)]) (bsr := []) [0] [] 1 rfl (by decide +kernel) rfl rfl) rfl hl.1 rfl (Nat.le_of_ble_eq_true rfl) dL_refuses_70 ⟨Nat.le_of_ble_eq_true rfl, Nat.le_of_ble_eq_true rfl⟩ (fun r_162 u_161 h_163 H locs hP hD hS => ?_)
            have h_r_162 : r_162 = (-999999001) := h_163
            subst h_r_162
            have hP : va_P D vwCl (fl [(CLK ty aC tC pC hC kC sC)]) H := hP
            have hD : va_D A (fl [(CLK ty aC tC pC hC kC sC)]) := hD
            refine lv_ldc hx hb hown (hts (Cond.constant RL 31 (-999999001)) (List.mem_of_getElem? (i := 3) rfl)) dL_refuses_73 ?_
            refine lv_icmp_ne (tgt := 283) hx hb dL_refuses_75 (by decide) (fun c_164 => ?_) (fun c_164 => ?_)
            · first | exact absurd c_164 (by decide) | exact absurd (by decide) c_164
            · skip
              have hJ93_164 : ∀ (H : Heap) (locs : List Loc), va_P D vwCl (fl [(CLK ty aC tC pC hC kC sC)]) H → va_D A (fl [(CLK ty aC tC pC hC kC sC)]) → va_S A s.heap H locs → ∀ ls : Array Slot, lv_has ls 4 [(2, .int 1), (1, .int (pC.1 11)), (0, .ref (aC.1 0))] → W p l e ({ frames := 9, cells := 65, slots := 390, locals := 200 } : Room) s m args below meth c H locs 10 60 Qg (F0 m 93 ls []) := by
                intro H locs hP hD hS ls hl
                refine lv_aload_n hx hb dL_refuses_93 rfl (lv_at hl 2 rfl) ?_
                refine lv_iconst (v := 4) hx hb dL_refuses_94 (by decide) ?_
                refine lv_iconst (v := 3) hx hb dL_refuses_95 (by decide) ?_
                refine cSWi (As := [.ref (aC.1 0), .int 4, .int 3]) (rest := []) ⟨hx, hb, hml, hown, hts⟩ (k_alarm_n0 l D ty 4 3 aC tC pC hC kC sC hst ((ninI_d (by decide +kernel)))) (vx_cwSW 3 hts gL_refuses_L_tryAlarm rfl rfl rfl (by decide +kernel) ⟨Nat.le_of_ble_eq_true rfl, Nat.le_of_ble_eq_true rfl⟩) hK hX hP hD hS hA (pk (bs := [(CLK ty aC tC pC hC kC sC)]) (bsc := [(CLK ty aC tC pC hC kC sC)]) (bsr := []) [0] [] 1 rfl (by decide +kernel) rfl rfl) rfl hl.1 rfl (Nat.le_of_ble_eq_true rfl) dL_refuses_96 ⟨Nat.le_of_ble_eq_true rfl, Nat.le_of_ble_eq_true rfl⟩ (fun r_167 u_166 h_168 H locs hP hD hS => ?_)
                have h_r_167 : r_167 = (-999999001) := h_168
                subst h_r_167
                have hP : va_P D vwCl (fl [(CLK ty aC tC pC hC kC sC)]) H := hP
                have hD : va_D A (fl [(CLK ty aC tC pC hC kC sC)]) := hD
                refine lv_ldc hx hb hown (hts (Cond.constant RL 31 (-999999001)) (List.mem_of_getElem? (i := 3) rfl)) dL_refuses_99 ?_
                refine lv_icmp_ne (tgt := 283) hx hb dL_refuses_101 (by decide) (fun c_169 => ?_) (fun c_169 => ?_)
                · first | exact absurd c_169 (by decide) | exact absurd (by decide) c_169
                · skip
                  refine lv_aload_n hx hb dL_refuses_104 rfl (lv_at hl 2 rfl) ?_
                  refine lv_iconst (v := 0) hx hb dL_refuses_105 (by decide) ?_
                  refine lv_iconst (v := 3) hx hb dL_refuses_106 (by decide) ?_
                  refine cSWi (As := [.ref (aC.1 0), .int 0, .int 3]) (rest := []) ⟨hx, hb, hml, hown, hts⟩ (k_alarm_n1 l D ty 0 3 aC tC pC hC kC sC hst ((inI_d (by decide +kernel))) ((ninR_d (by decide +kernel)))) (vx_cwSW 3 hts gL_refuses_L_tryAlarm rfl rfl rfl (by decide +kernel) ⟨Nat.le_of_ble_eq_true rfl, Nat.le_of_ble_eq_true rfl⟩) hK hX hP hD hS hA (pk (bs := [(CLK ty aC tC pC hC kC sC)]) (bsc := [(CLK ty aC tC pC hC kC sC)]) (bsr := []) [0] [] 1 rfl (by decide +kernel) rfl rfl) rfl hl.1 rfl (Nat.le_of_ble_eq_true rfl) dL_refuses_107 ⟨Nat.le_of_ble_eq_true rfl, Nat.le_of_ble_eq_true rfl⟩ (fun r_171 u_170 h_172 H locs hP hD hS => ?_)
                  have h_r_171 : r_171 = (-999999002) := h_172
                  subst h_r_171
                  have hP : va_P D vwCl (fl [(CLK ty aC tC pC hC kC sC)]) H := hP
                  have hD : va_D A (fl [(CLK ty aC tC pC hC kC sC)]) := hD
                  refine lv_ldc hx hb hown (hts (Cond.constant RL 15 (-999999002)) (List.mem_of_getElem? (i := 1) rfl)) dL_refuses_110 ?_
                  refine lv_icmp_ne (tgt := 283) hx hb dL_refuses_112 (by decide) (fun c_173 => ?_) (fun c_173 => ?_)
                  · first | exact absurd c_173 (by decide) | exact absurd (by decide) c_173
                  · skip
                    refine lv_aload_n hx hb dL_refuses_115 rfl (lv_at hl 2 rfl) ?_
                    refine lv_iconst (v := 0) hx hb dL_refuses_116 (by decide) ?_
                    refine cSWi (As := [.ref (aC.1 0), .int 0]) (rest := []) ⟨hx, hb, hml, hown, hts⟩ (k_pass_n0 l D ty 0 aC tC pC hC kC sC hst hc ((SG_Iw hG)) ((ninR_d (by decide +kernel)))) (vx_cwSW 2 hts gL_refuses_L_tryPass rfl rfl rfl (by decide +kernel) ⟨Nat.le_of_ble_eq_true rfl, Nat.le_of_ble_eq_true rfl⟩) hK hX hP hD hS hA (pk (bs := [(CLK ty aC tC pC hC kC sC)]) (bsc := [(CLK ty aC tC pC hC kC sC)]) (bsr := []) [0] [] 1 rfl (by decide +kernel) rfl rfl) rfl hl.1 rfl (Nat.le_of_ble_eq_true rfl) dL_refuses_117 ⟨Nat.le_of_ble_eq_true rfl, Nat.le_of_ble_eq_true rfl⟩ (fun r_175 u_174 h_176 H locs hP hD hS => ?_)
                    have h_r_175 : r_175 = (-999999002) := h_176
                    subst h_r_175
                    have hP : va_P D vwCl (fl [(CLK ty aC tC pC hC kC sC)]) H := hP
                    have hD : va_D A (fl [(CLK ty aC tC pC hC kC sC)]) := hD
                    refine lv_ldc hx hb hown (hts (Cond.constant RL 15 (-999999002)) (List.mem_of_getElem? (i := 1) rfl)) dL_refuses_120 ?_
                    refine lv_icmp_ne (tgt := 283) hx hb dL_refuses_122 (by decide) (fun c_177 => ?_) (fun c_177 => ?_)
                    · first | exact absurd c_177 (by decide) | exact absurd (by decide) c_177
                    · skip
                      refine lv_aload_n hx hb dL_refuses_125 rfl (lv_at hl 2 rfl) ?_
                      refine lv_sipush (v := 1441) hx hb dL_refuses_126 (by decide) ?_
                      refine cSWi (As := [.ref (aC.1 0), .int 1441]) (rest := []) ⟨hx, hb, hml, hown, hts⟩ (k_pass_n0 l D ty 1441 aC tC pC hC kC sC hst hc ((SG_Iw hG)) ((ninR_d (by decide +kernel)))) (vx_cwSW 2 hts gL_refuses_L_tryPass rfl rfl rfl (by decide +kernel) ⟨Nat.le_of_ble_eq_true rfl, Nat.le_of_ble_eq_true rfl⟩) hK hX hP hD hS hA (pk (bs := [(CLK ty aC tC pC hC kC sC)]) (bsc := [(CLK ty aC tC pC hC kC sC)]) (bsr := []) [0] [] 1 rfl (by decide +kernel) rfl rfl) rfl hl.1 rfl (Nat.le_of_ble_eq_true rfl) dL_refuses_129 ⟨Nat.le_of_ble_eq_true rfl, Nat.le_of_ble_eq_true rfl⟩ (fun r_179 u_178 h_180 H locs hP hD hS => ?_)
                      have h_r_179 : r_179 = (-999999002) := h_180
                      subst h_r_179
                      have hP : va_P D vwCl (fl [(CLK ty aC tC pC hC kC sC)]) H := hP
                      have hD : va_D A (fl [(CLK ty aC tC pC hC kC sC)]) := hD
                      refine lv_ldc hx hb hown (hts (Cond.constant RL 15 (-999999002)) (List.mem_of_getElem? (i := 1) rfl)) dL_refuses_132 ?_
                      refine lv_icmp_ne (tgt := 283) hx hb dL_refuses_134 (by decide) (fun c_181 => ?_) (fun c_181 => ?_)
                      · first | exact absurd c_181 (by decide) | exact absurd (by decide) c_181
                      · skip
                        refine lv_aload_n hx hb dL_refuses_137 rfl (lv_at hl 2 rfl) ?_
                        refine lv_bipush (v := 10) hx hb dL_refuses_138 (by decide) ?_
                        refine cSWi (As := [.ref (aC.1 0), .int 10]) (rest := []) ⟨hx, hb, hml, hown, hts⟩ (k_level_n0 l D ty 10 aC tC pC hC kC sC hst hc ((ninR_d (by decide +kernel)))) (vx_cwSW 2 hts gL_refuses_L_tryLevel rfl rfl rfl (by decide +kernel) ⟨Nat.le_of_ble_eq_true rfl, Nat.le_of_ble_eq_true rfl⟩) hK hX hP hD hS hA (pk (bs := [(CLK ty aC tC pC hC kC sC)]) (bsc := [(CLK ty aC tC pC hC kC sC)]) (bsr := []) [0] [] 1 rfl (by decide +kernel) rfl rfl) rfl hl.1 rfl (Nat.le_of_ble_eq_true rfl) dL_refuses_140 ⟨Nat.le_of_ble_eq_true rfl, Nat.le_of_ble_eq_true rfl⟩ (fun r_183 u_182 h_184 H locs hP hD hS => ?_)
                        have h_r_183 : r_183 = (-999999002) := h_184
                        subst h_r_183
                        have hP : va_P D vwCl (fl [(CLK ty aC tC pC hC kC sC)]) H := hP
                        have hD : va_D A (fl [(CLK ty aC tC pC hC kC sC)]) := hD
                        refine lv_ldc hx hb hown (hts (Cond.constant RL 15 (-999999002)) (List.mem_of_getElem? (i := 1) rfl)) dL_refuses_143 ?_
                        refine lv_icmp_ne (tgt := 283) hx hb dL_refuses_145 (by decide) (fun c_185 => ?_) (fun c_185 => ?_)
                        · first | exact absurd c_185 (by decide) | exact absurd (by decide) c_185
                        · skip
                          refine lv_aload_n hx hb dL_refuses_148 rfl (lv_at hl 2 rfl) ?_
                          refine lv_iconst (v := (-1)) hx hb dL_refuses_149 (by decide) ?_
                          refine cSWi (As := [.ref (aC.1 0), .int (-1)]) (rest := []) ⟨hx, hb, hml, hown, hts⟩ (k_setTime_n0 l D ty (-1) aC tC pC hC kC sC hst hc ((ninR_d (by decide +kernel)))) (vx_cwSW 2 hts gL_refuses_L_trySetTime rfl rfl rfl (by decide +kernel) ⟨Nat.le_of_ble_eq_true rfl, Nat.le_of_ble_eq_true rfl⟩) hK hX hP hD hS hA (pk (bs := [(CLK ty aC tC pC hC kC sC)]) (bsc := [(CLK ty aC tC pC hC kC sC)]) (bsr := []) [0] [] 1 rfl (by decide +kernel) rfl rfl) rfl hl.1 rfl (Nat.le_of_ble_eq_true rfl) dL_refuses_150 ⟨Nat.le_of_ble_eq_true rfl, Nat.le_of_ble_eq_true rfl⟩ (fun r_187 u_186 h_188 H locs hP hD hS => ?_)
                          have h_r_187 : r_187 = (-999999002) := h_188
                          subst h_r_187
                          have hP : va_P D vwCl (fl [(CLK ty aC tC pC hC kC sC)]) H := hP
                          have hD : va_D A (fl [(CLK ty aC tC pC hC kC sC)]) := hD
                          refine lv_ldc hx hb hown (hts (Cond.constant RL 15 (-999999002)) (List.mem_of_getElem? (i := 1) rfl)) dL_refuses_153 ?_
                          refine lv_icmp_ne (tgt := 283) hx hb dL_refuses_155 (by decide) (fun c_189 => ?_) (fun c_189 => ?_)
                          · first | exact absurd c_189 (by decide) | exact absurd (by decide) c_189
                          · skip
                            refine lv_aload_n hx hb dL_refuses_158 rfl (lv_at hl 2 rfl) ?_
                            refine lv_ldc hx hb hown (hts (Cond.constant RL 177 (100000000)) (List.mem_of_getElem? (i := 4) rfl)) dL_refuses_159 ?_
                            refine cSWi (As := [.ref (aC.1 0), .int 100000000]) (rest := []) ⟨hx, hb, hml, hown, hts⟩ (k_setTime_n0 l D ty 100000000 aC tC pC hC kC sC hst hc ((ninR_d (by decide +kernel)))) (vx_cwSW 2 hts gL_refuses_L_trySetTime rfl rfl rfl (by decide +kernel) ⟨Nat.le_of_ble_eq_true rfl, Nat.le_of_ble_eq_true rfl⟩) hK hX hP hD hS hA (pk (bs := [(CLK ty aC tC pC hC kC sC)]) (bsc := [(CLK ty aC tC pC hC kC sC)]) (bsr := []) [0] [] 1 rfl (by decide +kernel) rfl rfl) rfl hl.1 rfl (Nat.le_of_ble_eq_true rfl) dL_refuses_161 ⟨Nat.le_of_ble_eq_true rfl, Nat.le_of_ble_eq_true rfl⟩ (fun r_191 u_190 h_192 H locs hP hD hS => ?_)
                            have h_r_191 : r_191 = (-999999002) := h_192
                            subst h_r_191
                            have hP : va_P D vwCl (fl [(CLK ty aC tC pC hC kC sC)]) H := hP
                            have hD : va_D A (fl [(CLK ty aC tC pC hC kC sC)]) := hD
                            refine lv_ldc hx hb hown (hts (Cond.constant RL 15 (-999999002)) (List.mem_of_getElem? (i := 1) rfl)) dL_refuses_164 ?_
                            refine lv_icmp_ne (tgt := 283) hx hb dL_refuses_166 (by decide) (fun c_193 => ?_) (fun c_193 => ?_)
                            · first | exact absurd c_193 (by decide) | exact absurd (by decide) c_193
                            · skip
                              refine lv_aload_n hx hb dL_refuses_169 rfl (lv_at hl 2 rfl) ?_
                              refine lv_sipush (v := 501) hx hb dL_refuses_170 (by decide) ?_
                              refine cSWi (As := [.ref (aC.1 0), .int 501]) (rest := []) ⟨hx, hb, hml, hown, hts⟩ (k_correct_n0 l D ty 501 aC tC pC hC kC sC hst hc ((ninR_d (by decide +kernel)))) (vx_cwSW 2 hts gL_refuses_L_tryCorrect rfl rfl rfl (by decide +kernel) ⟨Nat.le_of_ble_eq_true rfl, Nat.le_of_ble_eq_true rfl⟩) hK hX hP hD hS hA (pk (bs := [(CLK ty aC tC pC hC kC sC)]) (bsc := [(CLK ty aC tC pC hC kC sC)]) (bsr := []) [0] [] 1 rfl (by decide +kernel) rfl rfl) rfl hl.1 rfl (Nat.le_of_ble_eq_true rfl) dL_refuses_173 ⟨Nat.le_of_ble_eq_true rfl, Nat.le_of_ble_eq_true rfl⟩ (fun r_195 u_194 h_196 H locs hP hD hS => ?_)
                              have h_r_195 : r_195 = (-999999002) := h_196
                              subst h_r_195
                              have hP : va_P D vwCl (fl [(CLK ty aC tC pC hC kC sC)]) H := hP
                              have hD : va_D A (fl [(CLK ty aC tC pC hC kC sC)]) := hD
                              refine lv_ldc hx hb hown (hts (Cond.constant RL 15 (-999999002)) (List.mem_of_getElem? (i := 1) rfl)) dL_refuses_176 ?_
                              refine lv_icmp_ne (tgt := 283) hx hb dL_refuses_178 (by decide) (fun c_197 => ?_) (fun c_197 => ?_)
                              · first | exact absurd c_197 (by decide) | exact absurd (by decide) c_197
                              · skip
                                refine lv_aload_n hx hb dL_refuses_181 rfl (lv_at hl 2 rfl) ?_
                                refine lv_sipush (v := (-501)) hx hb dL_refuses_182 (by decide) ?_
                                refine cSWi (As := [.ref (aC.1 0), .int (-501)]) (rest := []) ⟨hx, hb, hml, hown, hts⟩ (k_age_n0 l D ty (-501) aC tC pC hC kC sC hst hc ((ninR_d (by decide +kernel)))) (vx_cwSW 2 hts gL_refuses_L_tryAge rfl rfl rfl (by decide +kernel) ⟨Nat.le_of_ble_eq_true rfl, Nat.le_of_ble_eq_true rfl⟩) hK hX hP hD hS hA (pk (bs := [(CLK ty aC tC pC hC kC sC)]) (bsc := [(CLK ty aC tC pC hC kC sC)]) (bsr := []) [0] [] 1 rfl (by decide +kernel) rfl rfl) rfl hl.1 rfl (Nat.le_of_ble_eq_true rfl) dL_refuses_185 ⟨Nat.le_of_ble_eq_true rfl, Nat.le_of_ble_eq_true rfl⟩ (fun r_199 u_198 h_200 H locs hP hD hS => ?_)
                                have h_r_199 : r_199 = (-999999002) := h_200
                                subst h_r_199
                                have hP : va_P D vwCl (fl [(CLK ty aC tC pC hC kC sC)]) H := hP
                                have hD : va_D A (fl [(CLK ty aC tC pC hC kC sC)]) := hD
                                refine lv_ldc hx hb hown (hts (Cond.constant RL 15 (-999999002)) (List.mem_of_getElem? (i := 1) rfl)) dL_refuses_188 ?_
                                refine lv_icmp_ne (tgt := 283) hx hb dL_refuses_190 (by decide) (fun c_201 => ?_) (fun c_201 => ?_)
                                · first | exact absurd c_201 (by decide) | exact absurd (by decide) c_201
                                · skip
                                  refine lv_aload_n hx hb dL_refuses_193 rfl (lv_at hl 2 rfl) ?_
                                  refine lv_bipush (v := 8) hx hb dL_refuses_194 (by decide) ?_
                                  refine lv_sipush (v := 256) hx hb dL_refuses_196 (by decide) ?_
                                  refine cSWi (As := [.ref (aC.1 0), .int 8, .int 256]) (rest := []) ⟨hx, hb, hml, hown, hts⟩ (k_write_n0 l D ty 8 256 aC tC pC hC kC sC hst hc ((ninI_d (by decide +kernel)))) (vx_cwSW 3 hts gL_refuses_L_tryWrite rfl rfl rfl (by decide +kernel) ⟨Nat.le_of_ble_eq_true rfl, Nat.le_of_ble_eq_true rfl⟩) hK hX hP hD hS hA (pk (bs := [(CLK ty aC tC pC hC kC sC)]) (bsc := [(CLK ty aC tC pC hC kC sC)]) (bsr := []) [0] [] 1 rfl (by decide +kernel) rfl rfl) rfl hl.1 rfl (Nat.le_of_ble_eq_true rfl) dL_refuses_199 ⟨Nat.le_of_ble_eq_true rfl, Nat.le_of_ble_eq_true rfl⟩ (fun r_203 u_202 h_204 H locs hP hD hS => ?_)
                                  have h_r_203 : r_203 = (-999999001) := h_204
                                  subst h_r_203
                                  have hP : va_P D vwCl (fl [(CLK ty aC tC pC hC kC sC)]) H := hP
                                  have hD : va_D A (fl [(CLK ty aC tC pC hC kC sC)]) := hD
                                  refine lv_ldc hx hb hown (hts (Cond.constant RL 31 (-999999001)) (List.mem_of_getElem? (i := 3) rfl)) dL_refuses_202 ?_
                                  refine lv_icmp_ne (tgt := 283) hx hb dL_refuses_204 (by decide) (fun c_205 => ?_) (fun c_205 => ?_)
                                  · first | exact absurd c_205 (by decide) | exact absurd (by decide) c_205
                                  · skip
                                    refine lv_aload_n hx hb dL_refuses_207 rfl (lv_at hl 2 rfl) ?_
                                    refine lv_iconst (v := 0) hx hb dL_refuses_208 (by decide) ?_
                                    refine lv_sipush (v := 256) hx hb dL_refuses_209 (by decide) ?_
                                    refine cSWi (As := [.ref (aC.1 0), .int 0, .int 256]) (rest := []) ⟨hx, hb, hml, hown, hts⟩ (k_write_n1 l D ty 0 256 aC tC pC hC kC sC hst hc ((inI_d (by decide +kernel))) ((ninR_d (by decide +kernel)))) (vx_cwSW 3 hts gL_refuses_L_tryWrite rfl rfl rfl (by decide +kernel) ⟨Nat.le_of_ble_eq_true rfl, Nat.le_of_ble_eq_true rfl⟩) hK hX hP hD hS hA (pk (bs := [(CLK ty aC tC pC hC kC sC)]) (bsc := [(CLK ty aC tC pC hC kC sC)]) (bsr := []) [0] [] 1 rfl (by decide +kernel) rfl rfl) rfl hl.1 rfl (Nat.le_of_ble_eq_true rfl) dL_refuses_212 ⟨Nat.le_of_ble_eq_true rfl, Nat.le_of_ble_eq_true rfl⟩ (fun r_207 u_206 h_208 H locs hP hD hS => ?_)
                                    have h_r_207 : r_207 = (-999999002) := h_208
                                    subst h_r_207
                                    have hP : va_P D vwCl (fl [(CLK ty aC tC pC hC kC sC)]) H := hP
                                    have hD : va_D A (fl [(CLK ty aC tC pC hC kC sC)]) := hD
                                    refine lv_ldc hx hb hown (hts (Cond.constant RL 15 (-999999002)) (List.mem_of_getElem? (i := 1) rfl)) dL_refuses_215 ?_
                                    refine lv_icmp_ne (tgt := 283) hx hb dL_refuses_217 (by decide) (fun c_209 => ?_) (fun c_209 => ?_)
                                    · first | exact absurd c_209 (by decide) | exact absurd (by decide) c_209
                                    · skip
                                      refine lv_aload_n hx hb dL_refuses_220 rfl (lv_at hl 2 rfl) ?_
                                      refine lv_iconst (v := 3) hx hb dL_refuses_221 (by decide) ?_
                                      refine lv_iconst (v := 1) hx hb dL_refuses_222 (by decide) ?_
                                      refine cSWi (As := [.ref (aC.1 0), .int 3, .int 1]) (rest := []) ⟨hx, hb, hml, hown, hts⟩ (k_guard1_n0 l D ty 3 aC tC pC hC kC sC hst hc ((ninI_d (by decide +kernel)))) (vx_cwSW 3 hts gL_refuses_L_tryGuard rfl rfl rfl (by decide +kernel) ⟨Nat.le_of_ble_eq_true rfl, Nat.le_of_ble_eq_true rfl⟩) hK hX hP hD hS hA (pk (bs := [(CLK ty aC tC pC hC kC sC)]) (bsc := [(CLK ty aC tC pC hC kC sC)]) (bsr := []) [0] [] 1 rfl (by decide +kernel) rfl rfl) rfl hl.1 rfl (Nat.le_of_ble_eq_true rfl) dL_refuses_223 ⟨Nat.le_of_ble_eq_true rfl, Nat.le_of_ble_eq_true rfl⟩ (fun r_211 u_210 h_212 H locs hP hD hS => ?_)
                                      have h_r_211 : r_211 = (-999999001) := h_212
                                      subst h_r_211
                                      have hP : va_P D vwCl (fl [(CLK ty aC tC pC hC kC sC)]) H := hP
                                      have hD : va_D A (fl [(CLK ty aC tC pC hC kC sC)]) := hD
                                      refine lv_ldc hx hb hown (hts (Cond.constant RL 31 (-999999001)) (List.mem_of_getElem? (i := 3) rfl)) dL_refuses_226 ?_
                                      refine lv_icmp_ne (tgt := 283) hx hb dL_refuses_228 (by decide) (fun c_213 => ?_) (fun c_213 => ?_)
                                      · first | exact absurd c_213 (by decide) | exact absurd (by decide) c_213
                                      · skip
                                        refine lv_aload_n hx hb dL_refuses_231 rfl (lv_at hl 2 rfl) ?_
                                        refine lv_iconst (v := (-1)) hx hb dL_refuses_232 (by decide) ?_
                                        refine cSWi (As := [.ref (aC.1 0), .int (-1)]) (rest := []) ⟨hx, hb, hml, hown, hts⟩ (k_tamper_n0 l D ty (-1) aC tC pC hC kC sC hst hc ((SG_Rw hG).1) ((ninI_d (by decide +kernel)))) (vx_cwSW 2 hts gL_refuses_L_tryTamper rfl rfl rfl (by decide +kernel) ⟨Nat.le_of_ble_eq_true rfl, Nat.le_of_ble_eq_true rfl⟩) hK hX hP hD hS hA (pk (bs := [(CLK ty aC tC pC hC kC sC)]) (bsc := [(CLK ty aC tC pC hC kC sC)]) (bsr := []) [0] [] 1 rfl (by decide +kernel) rfl rfl) rfl hl.1 rfl (Nat.le_of_ble_eq_true rfl) dL_refuses_233 ⟨Nat.le_of_ble_eq_true rfl, Nat.le_of_ble_eq_true rfl⟩ (fun r_215 u_214 h_216 H locs hP hD hS => ?_)
                                        have h_r_215 : r_215 = (-999999001) := h_216
                                        subst h_r_215
                                        have hP : va_P D vwCl (fl [(CLK ty aC tC pC hC kC sC)]) H := hP
                                        have hD : va_D A (fl [(CLK ty aC tC pC hC kC sC)]) := hD
                                        refine lv_ldc hx hb hown (hts (Cond.constant RL 31 (-999999001)) (List.mem_of_getElem? (i := 3) rfl)) dL_refuses_236 ?_
                                        refine lv_icmp_ne (tgt := 283) hx hb dL_refuses_238 (by decide) (fun c_217 => ?_) (fun c_217 => ?_)
                                        · first | exact absurd c_217 (by decide) | exact absurd (by decide) c_217
                                        · skip
                                          refine lv_aload_n hx hb dL_refuses_241 rfl (lv_at hl 2 rfl) ?_
                                          refine lv_iconst (v := 4) hx hb dL_refuses_242 (by decide) ?_
                                          refine lv_sipush (v := 1441) hx hb dL_refuses_243 (by decide) ?_
                                          refine cSWi (As := [.ref (aC.1 0), .int 4, .int 1441]) (rest := []) ⟨hx, hb, hml, hown, hts⟩ (k_setAlarm_n0 l D ty 4 1441 aC tC pC hC kC sC hst hc ((ninI_d (by decide +kernel)))) (vx_cwSW 3 hts gL_refuses_L_trySetAlarm rfl rfl rfl (by decide +kernel) ⟨Nat.le_of_ble_eq_true rfl, Nat.le_of_ble_eq_true rfl⟩) hK hX hP hD hS hA (pk (bs := [(CLK ty aC tC pC hC kC sC)]) (bsc := [(CLK ty aC tC pC hC kC sC)]) (bsr := []) [0] [] 1 rfl (by decide +kernel) rfl rfl) rfl hl.1 rfl (Nat.le_of_ble_eq_true rfl) dL_refuses_246 ⟨Nat.le_of_ble_eq_true rfl, Nat.le_of_ble_eq_true rfl⟩ (fun r_219 u_218 h_220 H locs hP hD hS => ?_)
                                          have h_r_219 : r_219 = (-999999001) := h_220
                                          subst h_r_219
                                          have hP : va_P D vwCl (fl [(CLK ty aC tC pC hC kC sC)]) H := hP
                                          have hD : va_D A (fl [(CLK ty aC tC pC hC kC sC)]) := hD
                                          refine lv_ldc hx hb hown (hts (Cond.constant RL 31 (-999999001)) (List.mem_of_getElem? (i := 3) rfl)) dL_refuses_249 ?_
                                          refine lv_icmp_ne (tgt := 283) hx hb dL_refuses_251 (by decide) (fun c_221 => ?_) (fun c_221 => ?_)
                                          · first | exact absurd c_221 (by decide) | exact absurd (by decide) c_221
                                          · skip
                                            refine lv_aload_n hx hb dL_refuses_254 rfl (lv_at hl 2 rfl) ?_
                                            refine lv_iconst (v := 0) hx hb dL_refuses_255 (by decide) ?_
                                            refine lv_sipush (v := 1441) hx hb dL_refuses_256 (by decide) ?_
                                            refine cSWi (As := [.ref (aC.1 0), .int 0, .int 1441]) (rest := []) ⟨hx, hb, hml, hown, hts⟩ (k_setAlarm_n1 l D ty 0 1441 aC tC pC hC kC sC hst hc ((inI_d (by decide +kernel))) ((ninR_d (by decide +kernel)))) (vx_cwSW 3 hts gL_refuses_L_trySetAlarm rfl rfl rfl (by decide +kernel) ⟨Nat.le_of_ble_eq_true rfl, Nat.le_of_ble_eq_true rfl⟩) hK hX hP hD hS hA (pk (bs := [(CLK ty aC tC pC hC kC sC)]) (bsc := [(CLK ty aC tC pC hC kC sC)]) (bsr := []) [0] [] 1 rfl (by decide +kernel) rfl rfl) rfl hl.1 rfl (Nat.le_of_ble_eq_true rfl) dL_refuses_259 ⟨Nat.le_of_ble_eq_true rfl, Nat.le_of_ble_eq_true rfl⟩ (fun r_223 u_222 h_224 H locs hP hD hS => ?_)
                                            have h_r_223 : r_223 = (-999999002) := h_224
                                            subst h_r_223
                                            have hP : va_P D vwCl (fl [(CLK ty aC tC pC hC kC sC)]) H := hP
                                            have hD : va_D A (fl [(CLK ty aC tC pC hC kC sC)]) := hD
                                            refine lv_ldc hx hb hown (hts (Cond.constant RL 15 (-999999002)) (List.mem_of_getElem? (i := 1) rfl)) dL_refuses_262 ?_
                                            refine lv_icmp_ne (tgt := 283) hx hb dL_refuses_264 (by decide) (fun c_225 => ?_) (fun c_225 => ?_)
                                            · first | exact absurd c_225 (by decide) | exact absurd (by decide) c_225
                                            · skip
                                              refine lv_aload_n hx hb dL_refuses_267 rfl (lv_at hl 2 rfl) ?_
                                              refine lv_sipush (v := 10000) hx hb dL_refuses_268 (by decide) ?_
                                              refine cSWi (As := [.ref (aC.1 0), .int 10000]) (rest := []) ⟨hx, hb, hml, hown, hts⟩ (k_battery_n0 l D ty 10000 aC tC pC hC kC sC hst hc ((ninR_d (by decide +kernel)))) (vx_cwSW 2 hts gL_refuses_L_tryBattery rfl rfl rfl (by decide +kernel) ⟨Nat.le_of_ble_eq_true rfl, Nat.le_of_ble_eq_true rfl⟩) hK hX hP hD hS hA (pk (bs := [(CLK ty aC tC pC hC kC sC)]) (bsc := [(CLK ty aC tC pC hC kC sC)]) (bsr := []) [0] [] 1 rfl (by decide +kernel) rfl rfl) rfl hl.1 rfl (Nat.le_of_ble_eq_true rfl) dL_refuses_271 ⟨Nat.le_of_ble_eq_true rfl, Nat.le_of_ble_eq_true rfl⟩ (fun r_227 u_226 h_228 H locs hP hD hS => ?_)
                                              have h_r_227 : r_227 = (-999999002) := h_228
                                              subst h_r_227
                                              have hP : va_P D vwCl (fl [(CLK ty aC tC pC hC kC sC)]) H := hP
                                              have hD : va_D A (fl [(CLK ty aC tC pC hC kC sC)]) := hD
                                              refine lv_ldc hx hb hown (hts (Cond.constant RL 15 (-999999002)) (List.mem_of_getElem? (i := 1) rfl)) dL_refuses_274 ?_
                                              refine lv_icmp_ne (tgt := 283) hx hb dL_refuses_276 (by decide) (fun c_229 => ?_) (fun c_229 => ?_)
                                              · first | exact absurd c_229 (by decide) | exact absurd (by decide) c_229
                                              · skip
                                                refine lv_iconst (v := 1) hx hb dL_refuses_279 (by decide) ?_
                                                refine lv_goto (tgt := 284) hx hb dL_refuses_280 (by decide) ?_
                                                refine lv_istore_n (lv' := [(3, .int 1), (2, .int 1), (1, .int (pC.1 11)), (0, .ref (aC.1 0))]) hx hb dL_refuses_284 rfl hl (by decide) rfl (fun ls hl => ?_)
                                                refine lv_iload_n hx hb dL_refuses_285 rfl (lv_at hl 0 rfl) ?_
                                                refine lv_if_eq (tgt := 348) hx hb dL_refuses_286 (by decide) (fun c_230 => ?_) (fun c_230 => ?_)
                                                · exact absurd c_230 (by decide)
                                                · skip
                                                  refine lv_iload_n hx hb dL_refuses_289 rfl (lv_at hl 1 rfl) ?_
                                                  refine lv_if_eq (tgt := 344) hx hb dL_refuses_290 (by decide) (fun c_231 => ?_) (fun c_231 => ?_)
                                                  · exact absurd c_231 (by decide)
                                                  · skip
                                                    refine lv_aload_n hx hb dL_refuses_293 rfl (lv_at hl 3 rfl) ?_
                                                    refine lv_iconst (v := 0) hx hb dL_refuses_294 (by decide) ?_
                                                    refine cSWi (As := [.ref (aC.1 0), .int 0]) (rest := []) ⟨hx, hb, hml, hown, hts⟩ (k_setTime_n1 l D ty 0 aC tC pC hC kC sC hst hc ((inR_d (by decide +kernel))) ((fun q => c_7 (by rw [q]; decide)))) (vx_cwSW 2 hts gL_refuses_L_trySetTime rfl rfl rfl (by decide +kernel) ⟨Nat.le_of_ble_eq_true rfl, Nat.le_of_ble_eq_true rfl⟩) hK hX hP hD hS hA (pk (bs := [(CLK ty aC tC pC hC kC sC)]) (bsc := [(CLK ty aC tC pC hC kC sC)]) (bsr := []) [0] [] 1 rfl (by decide +kernel) rfl rfl) rfl hl.1 rfl (Nat.le_of_ble_eq_true rfl) dL_refuses_295 ⟨Nat.le_of_ble_eq_true rfl, Nat.le_of_ble_eq_true rfl⟩ (fun r_233 u_232 h_234 H locs hP hD hS => ?_)
                                                    have h_r_233 : r_233 = (-999999003) := h_234
                                                    subst h_r_233
                                                    have hP : va_P D vwCl (fl [(CLK ty aC tC pC hC kC sC)]) H := hP
                                                    have hD : va_D A (fl [(CLK ty aC tC pC hC kC sC)]) := hD
                                                    refine lv_ldc hx hb hown (hts (Cond.constant RL 18 (-999999003)) (List.mem_of_getElem? (i := 5) rfl)) dL_refuses_298 ?_
                                                    refine lv_icmp_ne (tgt := 348) hx hb dL_refuses_300 (by decide) (fun c_235 => ?_) (fun c_235 => ?_)
                                                    · first | exact absurd c_235 (by decide) | exact absurd (by decide) c_235
                                                    · skip
                                                      refine lv_aload_n hx hb dL_refuses_303 rfl (lv_at hl 3 rfl) ?_
                                                      refine lv_iconst (v := 0) hx hb dL_refuses_304 (by decide) ?_
                                                      refine cSWi (As := [.ref (aC.1 0), .int 0]) (rest := []) ⟨hx, hb, hml, hown, hts⟩ (k_correct_n1 l D ty 0 aC tC pC hC kC sC hst hc ((inR_d (by decide +kernel))) ((fun q => c_7 (by rw [q]; decide)))) (vx_cwSW 2 hts gL_refuses_L_tryCorrect rfl rfl rfl (by decide +kernel) ⟨Nat.le_of_ble_eq_true rfl, Nat.le_of_ble_eq_true rfl⟩) hK hX hP hD hS hA (pk (bs := [(CLK ty aC tC pC hC kC sC)]) (bsc := [(CLK ty aC tC pC hC kC sC)]) (bsr := []) [0] [] 1 rfl (by decide +kernel) rfl rfl) rfl hl.1 rfl (Nat.le_of_ble_eq_true rfl) dL_refuses_305 ⟨Nat.le_of_ble_eq_true rfl, Nat.le_of_ble_eq_true rfl⟩ (fun r_237 u_236 h_238 H locs hP hD hS => ?_)
                                                      have h_r_237 : r_237 = (-999999003) := h_238
                                                      subst h_r_237
                                                      have hP : va_P D vwCl (fl [(CLK ty aC tC pC hC kC sC)]) H := hP
                                                      have hD : va_D A (fl [(CLK ty aC tC pC hC kC sC)]) := hD
                                                      refine lv_ldc hx hb hown (hts (Cond.constant RL 18 (-999999003)) (List.mem_of_getElem? (i := 5) rfl)) dL_refuses_308 ?_
                                                      refine lv_icmp_ne (tgt := 348) hx hb dL_refuses_310 (by decide) (fun c_239 => ?_) (fun c_239 => ?_)
                                                      · first | exact absurd c_239 (by decide) | exact absurd (by decide) c_239
                                                      · skip
                                                        refine lv_aload_n hx hb dL_refuses_313 rfl (lv_at hl 3 rfl) ?_
                                                        refine lv_iconst (v := 0) hx hb dL_refuses_314 (by decide) ?_
                                                        refine lv_iconst (v := 0) hx hb dL_refuses_315 (by decide) ?_
                                                        refine cSWi (As := [.ref (aC.1 0), .int 0, .int 0]) (rest := []) ⟨hx, hb, hml, hown, hts⟩ (k_write_n2 l D ty 0 0 aC tC pC hC kC sC hst hc ((inI_d (by decide +kernel))) ((inR_d (by decide +kernel))) ((fun q => c_7 (by rw [q]; decide)))) (vx_cwSW 3 hts gL_refuses_L_tryWrite rfl rfl rfl (by decide +kernel) ⟨Nat.le_of_ble_eq_true rfl, Nat.le_of_ble_eq_true rfl⟩) hK hX hP hD hS hA (pk (bs := [(CLK ty aC tC pC hC kC sC)]) (bsc := [(CLK ty aC tC pC hC kC sC)]) (bsr := []) [0] [] 1 rfl (by decide +kernel) rfl rfl) rfl hl.1 rfl (Nat.le_of_ble_eq_true rfl) dL_refuses_316 ⟨Nat.le_of_ble_eq_true rfl, Nat.le_of_ble_eq_true rfl⟩ (fun r_241 u_240 h_242 H locs hP hD hS => ?_)
                                                        have h_r_241 : r_241 = (-999999003) := h_242
                                                        subst h_r_241
                                                        have hP : va_P D vwCl (fl [(CLK ty aC tC pC hC kC sC)]) H := hP
                                                        have hD : va_D A (fl [(CLK ty aC tC pC hC kC sC)]) := hD
                                                        refine lv_ldc hx hb hown (hts (Cond.constant RL 18 (-999999003)) (List.mem_of_getElem? (i := 5) rfl)) dL_refuses_319 ?_
                                                        refine lv_icmp_ne (tgt := 348) hx hb dL_refuses_321 (by decide) (fun c_243 => ?_) (fun c_243 => ?_)
                                                        · first | exact absurd c_243 (by decide) | exact absurd (by decide) c_243
                                                        · skip
                                                          refine lv_aload_n hx hb dL_refuses_324 rfl (lv_at hl 3 rfl) ?_
                                                          refine lv_iconst (v := 0) hx hb dL_refuses_325 (by decide) ?_
                                                          refine lv_iconst (v := 1) hx hb dL_refuses_326 (by decide) ?_
                                                          refine cSWi (As := [.ref (aC.1 0), .int 0, .int 1]) (rest := []) ⟨hx, hb, hml, hown, hts⟩ (k_guard1_n1 l D ty 0 aC tC pC hC kC sC hst hc ((inI_d (by decide +kernel))) ((fun q => c_7 (by rw [q]; decide)))) (vx_cwSW 3 hts gL_refuses_L_tryGuard rfl rfl rfl (by decide +kernel) ⟨Nat.le_of_ble_eq_true rfl, Nat.le_of_ble_eq_true rfl⟩) hK hX hP hD hS hA (pk (bs := [(CLK ty aC tC pC hC kC sC)]) (bsc := [(CLK ty aC tC pC hC kC sC)]) (bsr := []) [0] [] 1 rfl (by decide +kernel) rfl rfl) rfl hl.1 rfl (Nat.le_of_ble_eq_true rfl) dL_refuses_327 ⟨Nat.le_of_ble_eq_true rfl, Nat.le_of_ble_eq_true rfl⟩ (fun r_245 u_244 h_246 H locs hP hD hS => ?_)
                                                          have h_r_245 : r_245 = (-999999003) := h_246
                                                          subst h_r_245
                                                          have hP : va_P D vwCl (fl [(CLK ty aC tC pC hC kC sC)]) H := hP
                                                          have hD : va_D A (fl [(CLK ty aC tC pC hC kC sC)]) := hD
                                                          refine lv_ldc hx hb hown (hts (Cond.constant RL 18 (-999999003)) (List.mem_of_getElem? (i := 5) rfl)) dL_refuses_330 ?_
                                                          refine lv_icmp_ne (tgt := 348) hx hb dL_refuses_332 (by decide) (fun c_247 => ?_) (fun c_247 => ?_)
                                                          · first | exact absurd c_247 (by decide) | exact absurd (by decide) c_247
                                                          · skip
                                                            refine lv_aload_n hx hb dL_refuses_335 rfl (lv_at hl 3 rfl) ?_
                                                            refine cSWi (As := [.ref (aC.1 0)]) (rest := []) ⟨hx, hb, hml, hown, hts⟩ (k_clearRows_n0 l D ty aC tC pC hC kC sC hst hc ((fun q => c_7 (by rw [q]; decide)))) (vx_cwSW 1 hts gL_refuses_L_tryClearRows rfl rfl rfl (by decide +kernel) ⟨Nat.le_of_ble_eq_true rfl, Nat.le_of_ble_eq_true rfl⟩) hK hX hP hD hS hA (pk (bs := [(CLK ty aC tC pC hC kC sC)]) (bsc := [(CLK ty aC tC pC hC kC sC)]) (bsr := []) [0] [] 1 rfl (by decide +kernel) rfl rfl) rfl hl.1 rfl (Nat.le_of_ble_eq_true rfl) dL_refuses_336 ⟨Nat.le_of_ble_eq_true rfl, Nat.le_of_ble_eq_true rfl⟩ (fun r_249 u_248 h_250 H locs hP hD hS => ?_)
                                                            have h_r_249 : r_249 = (-999999003) := h_250
                                                            subst h_r_249
                                                            have hP : va_P D vwCl (fl [(CLK ty aC tC pC hC kC sC)]) H := hP
                                                            have hD : va_D A (fl [(CLK ty aC tC pC hC kC sC)]) := hD
                                                            refine lv_ldc hx hb hown (hts (Cond.constant RL 18 (-999999003)) (List.mem_of_getElem? (i := 5) rfl)) dL_refuses_339 ?_
                                                            refine lv_icmp_ne (tgt := 348) hx hb dL_refuses_341 (by decide) (fun c_251 => ?_) (fun c_251 => ?_)
                                                            · first | exact absurd c_251 (by decide) | exact absurd (by decide) c_251
                                                            · skip
                                                              refine lv_iconst (v := 1) hx hb dL_refuses_344 (by decide) ?_
                                                              refine lv_goto (tgt := 349) hx hb dL_refuses_345 (by decide) ?_
                                                              refine lv_istore_n (lv' := [(3, .int 1), (2, .int 1), (1, .int (pC.1 11)), (0, .ref (aC.1 0))]) hx hb dL_refuses_349 rfl hl (by decide) rfl (fun ls hl => ?_)
                                                              refine lv_iload_n hx hb dL_refuses_350 rfl (lv_at hl 0 rfl) ?_
                                                              refine lv_if_eq (tgt := 483) hx hb dL_refuses_351 (by decide) (fun c_252 => ?_) (fun c_252 => ?_)
                                                              · exact absurd c_252 (by decide)
                                                              · skip
                                                                refine lv_aload_n hx hb dL_refuses_354 rfl (lv_at hl 3 rfl) ?_
                                                                refine lv_sipush (v := 1441) hx hb dL_refuses_355 (by decide) ?_
                                                                refine lv_iconst (v := 0) hx hb dL_refuses_358 (by decide) ?_
                                                                refine cSWi (As := [.ref (aC.1 0), .int 1441, .int 0]) (rest := []) ⟨hx, hb, hml, hown, hts⟩ (k_ahead_n0 l D ty 1441 0 aC tC pC hC kC sC hst ((SG_Iw hG)) ((ninR_d (by decide +kernel)))) (vx_cwSW 3 hts gL_refuses_L_tryAhead rfl rfl rfl (by decide +kernel) ⟨Nat.le_of_ble_eq_true rfl, Nat.le_of_ble_eq_true rfl⟩) hK hX hP hD hS hA (pk (bs := [(CLK ty aC tC pC hC kC sC)]) (bsc := [(CLK ty aC tC pC hC kC sC)]) (bsr := []) [0] [] 1 rfl (by decide +kernel) rfl rfl) rfl hl.1 rfl (Nat.le_of_ble_eq_true rfl) dL_refuses_359 ⟨Nat.le_of_ble_eq_true rfl, Nat.le_of_ble_eq_true rfl⟩ (fun r_254 u_253 h_255 H locs hP hD hS => ?_)
                                                                have h_r_254 : r_254 = (-999999002) := h_255
                                                                subst h_r_254
                                                                have hP : va_P D vwCl (fl [(CLK ty aC tC pC hC kC sC)]) H := hP
                                                                have hD : va_D A (fl [(CLK ty aC tC pC hC kC sC)]) := hD
                                                                refine lv_ldc hx hb hown (hts (Cond.constant RL 15 (-999999002)) (List.mem_of_getElem? (i := 1) rfl)) dL_refuses_362 ?_
                                                                refine lv_icmp_ne (tgt := 483) hx hb dL_refuses_364 (by decide) (fun c_256 => ?_) (fun c_256 => ?_)
                                                                · first | exact absurd c_256 (by decide) | exact absurd (by decide) c_256
                                                                · skip
                                                                  refine lv_aload_n hx hb dL_refuses_367 rfl (lv_at hl 3 rfl) ?_
                                                                  refine lv_iconst (v := 0) hx hb dL_refuses_368 (by decide) ?_
                                                                  refine lv_bipush (v := 6) hx hb dL_refuses_369 (by decide) ?_
                                                                  refine cSWi (As := [.ref (aC.1 0), .int 0, .int 6]) (rest := []) ⟨hx, hb, hml, hown, hts⟩ (k_ahead_n1 l D ty 0 6 aC tC pC hC kC sC hst ((SG_Iw hG)) ((inR_d (by decide +kernel))) ((ninR_d (by decide +kernel)))) (vx_cwSW 3 hts gL_refuses_L_tryAhead rfl rfl rfl (by decide +kernel) ⟨Nat.le_of_ble_eq_true rfl, Nat.le_of_ble_eq_true rfl⟩) hK hX hP hD hS hA (pk (bs := [(CLK ty aC tC pC hC kC sC)]) (bsc := [(CLK ty aC tC pC hC kC sC)]) (bsr := []) [0] [] 1 rfl (by decide +kernel) rfl rfl) rfl hl.1 rfl (Nat.le_of_ble_eq_true rfl) dL_refuses_371 ⟨Nat.le_of_ble_eq_true rfl, Nat.le_of_ble_eq_true rfl⟩ (fun r_258 u_257 h_259 H locs hP hD hS => ?_)
                                                                  have h_r_258 : r_258 = (-999999002) := h_259
                                                                  subst h_r_258
                                                                  have hP : va_P D vwCl (fl [(CLK ty aC tC pC hC kC sC)]) H := hP
                                                                  have hD : va_D A (fl [(CLK ty aC tC pC hC kC sC)]) := hD
                                                                  refine lv_ldc hx hb hown (hts (Cond.constant RL 15 (-999999002)) (List.mem_of_getElem? (i := 1) rfl)) dL_refuses_374 ?_
                                                                  refine lv_icmp_ne (tgt := 483) hx hb dL_refuses_376 (by decide) (fun c_260 => ?_) (fun c_260 => ?_)
                                                                  · first | exact absurd c_260 (by decide) | exact absurd (by decide) c_260
                                                                  · skip
                                                                    refine lv_aload_n hx hb dL_refuses_379 rfl (lv_at hl 3 rfl) ?_
                                                                    refine lv_iconst (v := 4) hx hb dL_refuses_380 (by decide) ?_
                                                                    refine cSWi (As := [.ref (aC.1 0), .int 4]) (rest := []) ⟨hx, hb, hml, hown, hts⟩ (k_dueAfter_n0 l D ty 4 aC tC pC hC kC sC hst ((SG_Iw hG)) ((ninI_d (by decide +kernel)))) (vx_cwSW 2 hts gL_refuses_L_tryDueAfter rfl rfl rfl (by decide +kernel) ⟨Nat.le_of_ble_eq_true rfl, Nat.le_of_ble_eq_true rfl⟩) hK hX hP hD hS hA (pk (bs := [(CLK ty aC tC pC hC kC sC)]) (bsc := [(CLK ty aC tC pC hC kC sC)]) (bsr := []) [0] [] 1 rfl (by decide +kernel) rfl rfl) rfl hl.1 rfl (Nat.le_of_ble_eq_true rfl) dL_refuses_381 ⟨Nat.le_of_ble_eq_true rfl, Nat.le_of_ble_eq_true rfl⟩ (fun r_262 u_261 h_263 H locs hP hD hS => ?_)
                                                                    have h_r_262 : r_262 = (-999999001) := h_263
                                                                    subst h_r_262
                                                                    have hP : va_P D vwCl (fl [(CLK ty aC tC pC hC kC sC)]) H := hP
                                                                    have hD : va_D A (fl [(CLK ty aC tC pC hC kC sC)]) := hD
                                                                    refine lv_ldc hx hb hown (hts (Cond.constant RL 31 (-999999001)) (List.mem_of_getElem? (i := 3) rfl)) dL_refuses_384 ?_
                                                                    refine lv_icmp_ne (tgt := 483) hx hb dL_refuses_386 (by decide) (fun c_264 => ?_) (fun c_264 => ?_)
                                                                    · first | exact absurd c_264 (by decide) | exact absurd (by decide) c_264
                                                                    · skip
                                                                      refine lv_aload_n hx hb dL_refuses_389 rfl (lv_at hl 3 rfl) ?_
                                                                      refine lv_iconst (v := 0) hx hb dL_refuses_390 (by decide) ?_
                                                                      refine cSWi (As := [.ref (aC.1 0), .int 0]) (rest := []) ⟨hx, hb, hml, hown, hts⟩ (k_bestCorrection_n0 l D ty 0 aC tC pC hC kC sC hst ((ninR_d (by decide +kernel)))) (vx_cwSW 2 hts gL_refuses_L_tryBestCorrection rfl rfl rfl (by decide +kernel) ⟨Nat.le_of_ble_eq_true rfl, Nat.le_of_ble_eq_true rfl⟩) hK hX hP hD hS hA (pk (bs := [(CLK ty aC tC pC hC kC sC)]) (bsc := [(CLK ty aC tC pC hC kC sC)]) (bsr := []) [0] [] 1 rfl (by decide +kernel) rfl rfl) rfl hl.1 rfl (Nat.le_of_ble_eq_true rfl) dL_refuses_391 ⟨Nat.le_of_ble_eq_true rfl, Nat.le_of_ble_eq_true rfl⟩ (fun r_266 u_265 h_267 H locs hP hD hS => ?_)
                                                                      have h_r_266 : r_266 = (-999999002) := h_267
                                                                      subst h_r_266
                                                                      have hP : va_P D vwCl (fl [(CLK ty aC tC pC hC kC sC)]) H := hP
                                                                      have hD : va_D A (fl [(CLK ty aC tC pC hC kC sC)]) := hD
                                                                      refine lv_ldc hx hb hown (hts (Cond.constant RL 15 (-999999002)) (List.mem_of_getElem? (i := 1) rfl)) dL_refuses_394 ?_
                                                                      refine lv_icmp_ne (tgt := 483) hx hb dL_refuses_396 (by decide) (fun c_268 => ?_) (fun c_268 => ?_)
                                                                      · first | exact absurd c_268 (by decide) | exact absurd (by decide) c_268
                                                                      · skip
                                                                        refine lv_aload_n hx hb dL_refuses_399 rfl (lv_at hl 3 rfl) ?_
                                                                        refine lv_sipush (v := 601) hx hb dL_refuses_400 (by decide) ?_
                                                                        refine cSWi (As := [.ref (aC.1 0), .int 601]) (rest := []) ⟨hx, hb, hml, hown, hts⟩ (k_bestCorrection_n0 l D ty 601 aC tC pC hC kC sC hst ((ninR_d (by decide +kernel)))) (vx_cwSW 2 hts gL_refuses_L_tryBestCorrection rfl rfl rfl (by decide +kernel) ⟨Nat.le_of_ble_eq_true rfl, Nat.le_of_ble_eq_true rfl⟩) hK hX hP hD hS hA (pk (bs := [(CLK ty aC tC pC hC kC sC)]) (bsc := [(CLK ty aC tC pC hC kC sC)]) (bsr := []) [0] [] 1 rfl (by decide +kernel) rfl rfl) rfl hl.1 rfl (Nat.le_of_ble_eq_true rfl) dL_refuses_403 ⟨Nat.le_of_ble_eq_true rfl, Nat.le_of_ble_eq_true rfl⟩ (fun r_270 u_269 h_271 H locs hP hD hS => ?_)
                                                                        have h_r_270 : r_270 = (-999999002) := h_271
                                                                        subst h_r_270
                                                                        have hP : va_P D vwCl (fl [(CLK ty aC tC pC hC kC sC)]) H := hP
                                                                        have hD : va_D A (fl [(CLK ty aC tC pC hC kC sC)]) := hD
                                                                        refine lv_ldc hx hb hown (hts (Cond.constant RL 15 (-999999002)) (List.mem_of_getElem? (i := 1) rfl)) dL_refuses_406 ?_
                                                                        refine lv_icmp_ne (tgt := 483) hx hb dL_refuses_408 (by decide) (fun c_272 => ?_) (fun c_272 => ?_)
                                                                        · first | exact absurd c_272 (by decide) | exact absurd (by decide) c_272
                                                                        · skip
                                                                          refine lv_aload_n hx hb dL_refuses_411 rfl (lv_at hl 3 rfl) ?_
                                                                          refine lv_iconst (v := 4) hx hb dL_refuses_412 (by decide) ?_
                                                                          refine lv_lconst (v := 0) hx hb dL_refuses_413 (by decide) ?_
                                                                          refine cSWi (As := [.ref (aC.1 0), .int 4, .long 0]) (rest := []) ⟨hx, hb, hml, hown, hts⟩ (k_runScriptN_n0 l D ty 4 0 aC tC pC hC kC sC hst ((fun q => absurd q (ninR_d (by decide +kernel))))) (vx_cwSW 3 hts gL_refuses_L_tryScript rfl rfl rfl (by decide +kernel) ⟨Nat.le_of_ble_eq_true rfl, Nat.le_of_ble_eq_true rfl⟩) hK hX hP hD hS hA (pk (bs := [(CLK ty aC tC pC hC kC sC)]) (bsc := [(CLK ty aC tC pC hC kC sC)]) (bsr := []) [0] [] 1 rfl (by decide +kernel) rfl rfl) rfl hl.1 rfl (Nat.le_of_ble_eq_true rfl) dL_refuses_414 ⟨Nat.le_of_ble_eq_true rfl, Nat.le_of_ble_eq_true rfl⟩ (fun r_274 u_273 h_275 H locs hP hD hS => ?_)
                                                                          have h_r_274 : r_274 = (-999999002) := h_275
                                                                          subst h_r_274
                                                                          have hP : va_P D vwCl (fl [(CLK ty aC tC pC hC kC sC)]) H := hP
                                                                          have hD : va_D A (fl [(CLK ty aC tC pC hC kC sC)]) := hD
                                                                          refine lv_ldc hx hb hown (hts (Cond.constant RL 15 (-999999002)) (List.mem_of_getElem? (i := 1) rfl)) dL_refuses_417 ?_
                                                                          refine lv_icmp_ne (tgt := 483) hx hb dL_refuses_419 (by decide) (fun c_276 => ?_) (fun c_276 => ?_)
                                                                          · first | exact absurd c_276 (by decide) | exact absurd (by decide) c_276
                                                                          · skip
                                                                            refine lv_aload_n hx hb dL_refuses_422 rfl (lv_at hl 3 rfl) ?_
                                                                            refine lv_iconst (v := 1) hx hb dL_refuses_423 (by decide) ?_
                                                                            refine lv_ldc2 hx hb hown (hts (Cond.constantLong RL 215 (100000)) (List.mem_of_getElem? (i := 6) rfl)) dL_refuses_424 ?_
                                                                            refine cSWi (As := [.ref (aC.1 0), .int 1, .long 100000]) (rest := []) ⟨hx, hb, hml, hown, hts⟩ (k_runScript1_n0 l D ty 100000 aC tC pC hC kC sC hst ((by omega)) ((SG_Pw hG)) ((by omega))) (vx_cwSW 3 hts gL_refuses_L_tryScript rfl rfl rfl (by decide +kernel) ⟨Nat.le_of_ble_eq_true rfl, Nat.le_of_ble_eq_true rfl⟩) hK hX hP hD hS hA (pk (bs := [(CLK ty aC tC pC hC kC sC)]) (bsc := [(CLK ty aC tC pC hC kC sC)]) (bsr := []) [0] [] 1 rfl (by decide +kernel) rfl rfl) rfl hl.1 rfl (Nat.le_of_ble_eq_true rfl) dL_refuses_427 ⟨Nat.le_of_ble_eq_true rfl, Nat.le_of_ble_eq_true rfl⟩ (fun r_278 u_277 h_279 H locs hP hD hS => ?_)
                                                                            have h_r_278 : r_278 = (-999999002) := h_279
                                                                            subst h_r_278
                                                                            have hP : va_P D vwCl (fl [(CLK ty aC tC pC hC kC sC)]) H := hP
                                                                            have hD : va_D A (fl [(CLK ty aC tC pC hC kC sC)]) := hD
                                                                            refine lv_ldc hx hb hown (hts (Cond.constant RL 15 (-999999002)) (List.mem_of_getElem? (i := 1) rfl)) dL_refuses_430 ?_
                                                                            refine lv_icmp_ne (tgt := 483) hx hb dL_refuses_432 (by decide) (fun c_280 => ?_) (fun c_280 => ?_)
                                                                            · first | exact absurd c_280 (by decide) | exact absurd (by decide) c_280
                                                                            · skip
                                                                              refine lv_aload_n hx hb dL_refuses_435 rfl (lv_at hl 3 rfl) ?_
                                                                              refine lv_lconst (v := 1) hx hb dL_refuses_436 (by decide) ?_
                                                                              refine lv_bipush (v := 61) hx hb dL_refuses_437 (by decide) ?_
                                                                              refine cSWi (As := [.ref (aC.1 0), .long 1, .int 61]) (rest := []) ⟨hx, hb, hml, hown, hts⟩ (k_simulateN_n0 l D ty 1 61 aC tC pC hC kC sC hst ((ninR_d (by decide +kernel)))) (vx_cwSW 3 hts gL_refuses_L_trySimulate rfl rfl rfl (by decide +kernel) ⟨Nat.le_of_ble_eq_true rfl, Nat.le_of_ble_eq_true rfl⟩) hK hX hP hD hS hA (pk (bs := [(CLK ty aC tC pC hC kC sC)]) (bsc := [(CLK ty aC tC pC hC kC sC)]) (bsr := []) [0] [] 1 rfl (by decide +kernel) rfl rfl) rfl hl.1 rfl (Nat.le_of_ble_eq_true rfl) dL_refuses_439 ⟨Nat.le_of_ble_eq_true rfl, Nat.le_of_ble_eq_true rfl⟩ (fun r_282 u_281 h_283 H locs hP hD hS => ?_)
                                                                              have h_r_282 : r_282 = (-999999002) := h_283
                                                                              subst h_r_282
                                                                              have hP : va_P D vwCl (fl [(CLK ty aC tC pC hC kC sC)]) H := hP
                                                                              have hD : va_D A (fl [(CLK ty aC tC pC hC kC sC)]) := hD
                                                                              refine lv_ldc hx hb hown (hts (Cond.constant RL 15 (-999999002)) (List.mem_of_getElem? (i := 1) rfl)) dL_refuses_442 ?_
                                                                              refine lv_icmp_ne (tgt := 483) hx hb dL_refuses_444 (by decide) (fun c_284 => ?_) (fun c_284 => ?_)
                                                                              · first | exact absurd c_284 (by decide) | exact absurd (by decide) c_284
                                                                              · skip
                                                                                refine lv_aload_n hx hb dL_refuses_447 rfl (lv_at hl 3 rfl) ?_
                                                                                refine lv_iconst (v := 2) hx hb dL_refuses_448 (by decide) ?_
                                                                                refine cSWi (As := [.ref (aC.1 0), .int 2]) (rest := []) ⟨hx, hb, hml, hown, hts⟩ (k_save_n0 l D ty 2 aC tC pC hC kC sC hst ((ninI_d (by decide +kernel)))) (vx_cwSW 2 hts gL_refuses_L_trySave rfl rfl rfl (by decide +kernel) ⟨Nat.le_of_ble_eq_true rfl, Nat.le_of_ble_eq_true rfl⟩) hK hX hP hD hS hA (pk (bs := [(CLK ty aC tC pC hC kC sC)]) (bsc := [(CLK ty aC tC pC hC kC sC)]) (bsr := []) [0] [] 1 rfl (by decide +kernel) rfl rfl) rfl hl.1 rfl (Nat.le_of_ble_eq_true rfl) dL_refuses_449 ⟨Nat.le_of_ble_eq_true rfl, Nat.le_of_ble_eq_true rfl⟩ (fun r_286 u_285 h_287 H locs hP hD hS => ?_)
                                                                                have h_r_286 : r_286 = (-999999001) := h_287
                                                                                subst h_r_286
                                                                                have hP : va_P D vwCl (fl [(CLK ty aC tC pC hC kC sC)]) H := hP
                                                                                have hD : va_D A (fl [(CLK ty aC tC pC hC kC sC)]) := hD
                                                                                refine lv_ldc hx hb hown (hts (Cond.constant RL 31 (-999999001)) (List.mem_of_getElem? (i := 3) rfl)) dL_refuses_452 ?_
                                                                                refine lv_icmp_ne (tgt := 483) hx hb dL_refuses_454 (by decide) (fun c_288 => ?_) (fun c_288 => ?_)
                                                                                · first | exact absurd c_288 (by decide) | exact absurd (by decide) c_288
                                                                                · skip
                                                                                  refine lv_aload_n hx hb dL_refuses_457 rfl (lv_at hl 3 rfl) ?_
                                                                                  refine lv_iconst (v := (-1)) hx hb dL_refuses_458 (by decide) ?_
                                                                                  refine cSWi (As := [.ref (aC.1 0), .int (-1)]) (rest := []) ⟨hx, hb, hml, hown, hts⟩ (k_restore_n0 l D ty (-1) aC tC pC hC kC sC hst ((ninI_d (by decide +kernel)))) (vx_cwSW 2 hts gL_refuses_L_tryRestore rfl rfl rfl (by decide +kernel) ⟨Nat.le_of_ble_eq_true rfl, Nat.le_of_ble_eq_true rfl⟩) hK hX hP hD hS hA (pk (bs := [(CLK ty aC tC pC hC kC sC)]) (bsc := [(CLK ty aC tC pC hC kC sC)]) (bsr := []) [0] [] 1 rfl (by decide +kernel) rfl rfl) rfl hl.1 rfl (Nat.le_of_ble_eq_true rfl) dL_refuses_459 ⟨Nat.le_of_ble_eq_true rfl, Nat.le_of_ble_eq_true rfl⟩ (fun r_290 u_289 h_291 H locs hP hD hS => ?_)
                                                                                  have h_r_290 : r_290 = (-999999001) := h_291
                                                                                  subst h_r_290
                                                                                  have hP : va_P D vwCl (fl [(CLK ty aC tC pC hC kC sC)]) H := hP
                                                                                  have hD : va_D A (fl [(CLK ty aC tC pC hC kC sC)]) := hD
                                                                                  refine lv_ldc hx hb hown (hts (Cond.constant RL 31 (-999999001)) (List.mem_of_getElem? (i := 3) rfl)) dL_refuses_462 ?_
                                                                                  refine lv_icmp_ne (tgt := 483) hx hb dL_refuses_464 (by decide) (fun c_292 => ?_) (fun c_292 => ?_)
                                                                                  · first | exact absurd c_292 (by decide) | exact absurd (by decide) c_292
                                                                                  · skip
                                                                                    refine lv_aload_n hx hb dL_refuses_467 rfl (lv_at hl 3 rfl) ?_
                                                                                    refine lv_sipush (v := 256) hx hb dL_refuses_468 (by decide) ?_
                                                                                    refine cSWi (As := [.ref (aC.1 0), .int 256]) (rest := []) ⟨hx, hb, hml, hown, hts⟩ (k_append_n0 l D ty 256 aC tC pC hC kC sC hst hl6 ((ninR_d (by decide +kernel)))) (vx_cwSW 2 hts gL_refuses_L_tryAppend rfl rfl rfl (by decide +kernel) ⟨Nat.le_of_ble_eq_true rfl, Nat.le_of_ble_eq_true rfl⟩) hK hX hP hD hS hA (pk (bs := [(CLK ty aC tC pC hC kC sC)]) (bsc := [(CLK ty aC tC pC hC kC sC)]) (bsr := []) [0] [] 1 rfl (by decide +kernel) rfl rfl) rfl hl.1 rfl (Nat.le_of_ble_eq_true rfl) dL_refuses_471 ⟨Nat.le_of_ble_eq_true rfl, Nat.le_of_ble_eq_true rfl⟩ (fun r_294 u_293 h_295 H locs hP hD hS => ?_)
                                                                                    have h_r_294 : r_294 = (-999999002) := h_295
                                                                                    subst h_r_294
                                                                                    have hP : va_P D vwCl (fl [(CLK ty aC tC pC hC kC sC)]) H := hP
                                                                                    have hD : va_D A (fl [(CLK ty aC tC pC hC kC sC)]) := hD
                                                                                    refine lv_ldc hx hb hown (hts (Cond.constant RL 15 (-999999002)) (List.mem_of_getElem? (i := 1) rfl)) dL_refuses_474 ?_
                                                                                    refine lv_icmp_ne (tgt := 483) hx hb dL_refuses_476 (by decide) (fun c_296 => ?_) (fun c_296 => ?_)
                                                                                    · first | exact absurd c_296 (by decide) | exact absurd (by decide) c_296
                                                                                    · skip
                                                                                      refine lv_iconst (v := 1) hx hb dL_refuses_479 (by decide) ?_
                                                                                      refine lv_goto (tgt := 484) hx hb dL_refuses_480 (by decide) ?_
                                                                                      subst hQg
                                                                                      have hP : va_P D vwCl (fl [(CLK ty aC tC pC hC kC sC)]) H := hP
                                                                                      have hD : va_D A (fl [(CLK ty aC tC pC hC kC sC)]) := hD
                                                                                      exact end_z (bs' := (fun (_ : Unit) => [(CLK ty aC tC pC hC kC sC)])) () hx hb hr hlocks rfl hP hD hS rfl (Nat.le_of_ble_eq_true rfl) (Nat.le_of_ble_eq_true rfl) dL_refuses_484
              refine lv_iload_n hx hb dL_refuses_78 rfl (lv_at hl 1 rfl) ?_
              refine lv_if_eq (tgt := 93) hx hb dL_refuses_79 (by decide) (fun c_297 => ?_) (fun c_297 => ?_)
              · skip
                refine W.widen (k := 10) (n := 60) (Nat.le_of_ble_eq_true rfl) (Nat.le_of_ble_eq_true rfl) ?_
                exact hJ93_164 _ _ hP hD hS _ (lv_sub hl [0, 1, 2] rfl)
              · skip
                refine lv_aload_n hx hb dL_refuses_82 rfl (lv_at hl 2 rfl) ?_
                refine lv_iconst (v := 0) hx hb dL_refuses_83 (by decide) ?_
                refine lv_iconst (v := 3) hx hb dL_refuses_84 (by decide) ?_
                refine cSWi (As := [.ref (aC.1 0), .int 0, .int 3]) (rest := []) ⟨hx, hb, hml, hown, hts⟩ (k_row_n1 l D ty 0 3 aC tC pC hC kC sC hst ((SG_Rw hG).2) ((inI_0 (SG_Rw hG) c_297)) ((ninR_d (by decide +kernel)))) (vx_cwSW 3 hts gL_refuses_L_tryRow rfl rfl rfl (by decide +kernel) ⟨Nat.le_of_ble_eq_true rfl, Nat.le_of_ble_eq_true rfl⟩) hK hX hP hD hS hA (pk (bs := [(CLK ty aC tC pC hC kC sC)]) (bsc := [(CLK ty aC tC pC hC kC sC)]) (bsr := []) [0] [] 1 rfl (by decide +kernel) rfl rfl) rfl hl.1 rfl (Nat.le_of_ble_eq_true rfl) dL_refuses_85 ⟨Nat.le_of_ble_eq_true rfl, Nat.le_of_ble_eq_true rfl⟩ (fun r_299 u_298 h_300 H locs hP hD hS => ?_)
                have h_r_299 : r_299 = (-999999002) := h_300
                subst h_r_299
                have hP : va_P D vwCl (fl [(CLK ty aC tC pC hC kC sC)]) H := hP
                have hD : va_D A (fl [(CLK ty aC tC pC hC kC sC)]) := hD
                refine lv_ldc hx hb hown (hts (Cond.constant RL 15 (-999999002)) (List.mem_of_getElem? (i := 1) rfl)) dL_refuses_88 ?_
                refine lv_icmp_ne (tgt := 283) hx hb dL_refuses_90 (by decide) (fun c_301 => ?_) (fun c_301 => ?_)
                · first | exact absurd c_301 (by decide) | exact absurd (by decide) c_301
                · skip
                  exact hJ93_164 _ _ hP hD hS _ (lv_sub hl [0, 1, 2] rfl)
