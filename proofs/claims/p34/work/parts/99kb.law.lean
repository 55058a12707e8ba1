set_option maxHeartbeats 8000000 in
set_option maxRecDepth 100000 in
theorem k_sound (l : Launch) (D : va_G) (ty : Nat → ClassId) (B M : Int) (aC : CA) (tC : CTx) (pC : CPg) (hC : CHs) (kC : CKs) (sC : CSc) (hst : l.stackTraces = false) (hG : SG B M pC) (hM : M ≤ 2000000000) : CTi l yL_sound wsL_sound ({ frames := 9, cells := 88, slots := 528, locals := 149 }) D ty [.ref (aC.1 0)] [(CLK ty aC tC pC hC kC sC)] (fun (RET : Int32) (_ : Unit) => RET = 1) (fun (_ : Unit) => [(CLK ty aC tC pC hC kC sC)]) := by
  refine CTi_of cL_sound 10 (some .boolean) (by decide) rfl (Nat.le_of_ble_eq_true rfl) ?_
  intro p e s m args below meth c A hx hb hr hml hown hlocks hin hts hA hX hK hP hD ls hl
  have hown : s.vm.findClass RL = some m.cls := hown
  have hS : va_S A s.heap s.heap [] := va_S.rf
  have hl : lv_has ls 10 [(0, .ref (aC.1 0))] := hl
  generalize hQg : MQ below (va_Qi (fun (RET : Int32) (_ : Unit) => RET = 1) (PostW D (fun (_ : Unit) => [(CLK ty aC tC pC hC kC sC)]) A) A) args s 88 528 A = Qg
  refine lv_aload_n hx hb dL_sound_0 rfl (lv_at hl 0 rfl) ?_
  refine lv_bipush (v := 7) hx hb dL_sound_1 (by decide) ?_
  refine cSWi (As := [.ref (aC.1 0), .int 7]) (rest := []) ⟨hx, hb, hml, hown, hts⟩ (k_about l D ty 7 aC tC pC hC kC sC hst ((inR_d (by decide +kernel)))) (vx_cwSW 2 hts gL_sound_L_tryAbout rfl rfl rfl (by decide +kernel) ⟨Nat.le_of_ble_eq_true rfl, Nat.le_of_ble_eq_true rfl⟩) hK hX hP hD hS hA (pk (bs := [(CLK ty aC tC pC hC kC sC)]) (bsc := [(CLK ty aC tC pC hC kC sC)]) (bsr := []) [0] [] 1 rfl (by decide +kernel) rfl rfl) rfl hl.1 rfl (Nat.le_of_ble_eq_true rfl) dL_sound_3 ⟨Nat.le_of_ble_eq_true rfl, Nat.le_of_ble_eq_true rfl⟩ (fun r_2 u_1 h_3 H locs hP hD hS => ?_)
  have h_r_2 : r_2 = pC.1 6 := h_3.trans (tell_7 _)
  subst h_r_2
  have hP : va_P D vwCl (fl [(CLK ty aC tC pC hC kC sC)]) H := hP
  have hD : va_D A (fl [(CLK ty aC tC pC hC kC sC)]) := hD
  refine lv_istore_n (lv' := [(1, .int (pC.1 6)), (0, .ref (aC.1 0))]) hx hb dL_sound_6 rfl hl (by decide) rfl (fun ls hl => ?_)
  refine lv_aload_n hx hb dL_sound_7 rfl (lv_at hl 1 rfl) ?_
  refine lv_bipush (v := 8) hx hb dL_sound_8 (by decide) ?_
  refine cSWi (As := [.ref (aC.1 0), .int 8]) (rest := []) ⟨hx, hb, hml, hown, hts⟩ (k_about l D ty 8 aC tC pC hC kC sC hst ((inR_d (by decide +kernel)))) (vx_cwSW 2 hts gL_sound_L_tryAbout rfl rfl rfl (by decide +kernel) ⟨Nat.le_of_ble_eq_true rfl, Nat.le_of_ble_eq_true rfl⟩) hK hX hP hD hS hA (pk (bs := [(CLK ty aC tC pC hC kC sC)]) (bsc := [(CLK ty aC tC pC hC kC sC)]) (bsr := []) [0] [] 1 rfl (by decide +kernel) rfl rfl) rfl hl.1 rfl (Nat.le_of_ble_eq_true rfl) dL_sound_10 ⟨Nat.le_of_ble_eq_true rfl, Nat.le_of_ble_eq_true rfl⟩ (fun r_5 u_4 h_6 H locs hP hD hS => ?_)
  have h_r_5 : r_5 = pC.1 7 := h_6.trans (tell_8 _)
  subst h_r_5
  have hP : va_P D vwCl (fl [(CLK ty aC tC pC hC kC sC)]) H := hP
  have hD : va_D A (fl [(CLK ty aC tC pC hC kC sC)]) := hD
  refine lv_istore_n (lv' := [(2, .int (pC.1 7)), (1, .int (pC.1 6)), (0, .ref (aC.1 0))]) hx hb dL_sound_13 rfl hl (by decide) rfl (fun ls hl => ?_)
  have hJ41_6 : ∀ (H : Heap) (locs : List Loc), va_P D vwCl (fl [(CLK ty aC tC pC hC kC sC)]) H → va_D A (fl [(CLK ty aC tC pC hC kC sC)]) → va_S A s.heap H locs → ∀ ls : Array Slot, lv_has ls 10 [(2, .int (pC.1 7)), (1, .int (pC.1 6)), (0, .ref (aC.1 0))] → W p l e ({ frames := 9, cells := 88, slots := 528, locals := 149 } : Room) s m args below meth c H locs 2 12 Qg (F0 m 41 ls [.int (pdom pC.1)]) := by
    intro H locs hP hD hS ls hl
    refine lv_istore_n (lv' := [(3, .int (pdom pC.1)), (2, .int (pC.1 7)), (1, .int (pC.1 6)), (0, .ref (aC.1 0))]) hx hb dL_sound_41 rfl hl (by decide) rfl (fun ls hl => ?_)
    refine lv_aload_n hx hb dL_sound_42 rfl (lv_at hl 3 rfl) ?_
    refine lv_iconst (v := 0) hx hb dL_sound_43 (by decide) ?_
    refine cSWl (As := [.ref (aC.1 0), .int 0]) (rest := []) ⟨hx, hb, hml, hown, hts⟩ (k_account l D ty 0 aC tC pC hC kC sC hst ((inR_d (by decide +kernel)))) (vx_cwSW 2 hts gL_sound_L_account rfl rfl rfl (by decide +kernel) ⟨Nat.le_of_ble_eq_true rfl, Nat.le_of_ble_eq_true rfl⟩) hK hX hP hD hS hA (pk (bs := [(CLK ty aC tC pC hC kC sC)]) (bsc := [(CLK ty aC tC pC hC kC sC)]) (bsr := []) [0] [] 1 rfl (by decide +kernel) rfl rfl) rfl hl.1 rfl (Nat.le_of_ble_eq_true rfl) dL_sound_44 ⟨Nat.le_of_ble_eq_true rfl, Nat.le_of_ble_eq_true rfl⟩ (fun r_9 u_8 h_10 H locs hP hD hS => ?_)
    have h_r_9 : r_9 = Int32.toInt64 (pC.1 12) := h_10.trans (acc_0 _ _ _)
    subst h_r_9
    have hP : va_P D vwCl (fl [(CLK ty aC tC pC hC kC sC)]) H := hP
    have hD : va_D A (fl [(CLK ty aC tC pC hC kC sC)]) := hD
    refine lv_aload_n hx hb dL_sound_47 rfl (lv_at hl 3 rfl) ?_
    refine lv_iconst (v := 1) hx hb dL_sound_48 (by decide) ?_
    refine cSWl (As := [.ref (aC.1 0), .int 1]) (rest := [.long (Int32.toInt64 (pC.1 12))]) ⟨hx, hb, hml, hown, hts⟩ (k_account l D ty 1 aC tC pC hC kC sC hst ((inR_d (by decide +kernel)))) (vx_cwSW 2 hts gL_sound_L_account rfl rfl rfl (by decide +kernel) ⟨Nat.le_of_ble_eq_true rfl, Nat.le_of_ble_eq_true rfl⟩) hK hX hP hD hS hA (pk (bs := [(CLK ty aC tC pC hC kC sC)]) (bsc := [(CLK ty aC tC pC hC kC sC)]) (bsr := []) [0] [] 1 rfl (by decide +kernel) rfl rfl) rfl hl.1 rfl (Nat.le_of_ble_eq_true rfl) dL_sound_49 ⟨Nat.le_of_ble_eq_true rfl, Nat.le_of_ble_eq_true rfl⟩ (fun r_12 u_11 h_13 H locs hP hD hS => ?_)
    have h_r_12 : r_12 = Int32.toInt64 (pC.1 13) := h_13.trans (acc_1 _ _ _)
    subst h_r_12
    have hP : va_P D vwCl (fl [(CLK ty aC tC pC hC kC sC)]) H := hP
    have hD : va_D A (fl [(CLK ty aC tC pC hC kC sC)]) := hD
    refine k_ladd (v := ((Int32.toInt64 (pC.1 12)) + (Int32.toInt64 (pC.1 13)))) hx hb dL_sound_52 rfl ?_
    refine lv_aload_n hx hb dL_sound_53 rfl (lv_at hl 3 rfl) ?_
    refine lv_iconst (v := 2) hx hb dL_sound_54 (by decide) ?_
    refine cSWl (As := [.ref (aC.1 0), .int 2]) (rest := [.long ((Int32.toInt64 (pC.1 12)) + (Int32.toInt64 (pC.1 13)))]) ⟨hx, hb, hml, hown, hts⟩ (k_account l D ty 2 aC tC pC hC kC sC hst ((inR_d (by decide +kernel)))) (vx_cwSW 2 hts gL_sound_L_account rfl rfl rfl (by decide +kernel) ⟨Nat.le_of_ble_eq_true rfl, Nat.le_of_ble_eq_true rfl⟩) hK hX hP hD hS hA (pk (bs := [(CLK ty aC tC pC hC kC sC)]) (bsc := [(CLK ty aC tC pC hC kC sC)]) (bsr := []) [0] [] 1 rfl (by decide +kernel) rfl rfl) rfl hl.1 rfl (Nat.le_of_ble_eq_true rfl) dL_sound_55 ⟨Nat.le_of_ble_eq_true rfl, Nat.le_of_ble_eq_true rfl⟩ (fun r_15 u_14 h_16 H locs hP hD hS => ?_)
    have h_r_15 : r_15 = Int32.toInt64 (pC.1 14) := h_16.trans (acc_2 _ _ _)
    subst h_r_15
    have hP : va_P D vwCl (fl [(CLK ty aC tC pC hC kC sC)]) H := hP
    have hD : va_D A (fl [(CLK ty aC tC pC hC kC sC)]) := hD
    refine k_ladd (v := (((Int32.toInt64 (pC.1 12)) + (Int32.toInt64 (pC.1 13))) + (Int32.toInt64 (pC.1 14)))) hx hb dL_sound_58 rfl ?_
    refine lv_aload_n hx hb dL_sound_59 rfl (lv_at hl 3 rfl) ?_
    refine lv_iconst (v := 3) hx hb dL_sound_60 (by decide) ?_
    refine cSWl (As := [.ref (aC.1 0), .int 3]) (rest := [.long (((Int32.toInt64 (pC.1 12)) + (Int32.toInt64 (pC.1 13))) + (Int32.toInt64 (pC.1 14)))]) ⟨hx, hb, hml, hown, hts⟩ (k_account l D ty 3 aC tC pC hC kC sC hst ((inR_d (by decide +kernel)))) (vx_cwSW 2 hts gL_sound_L_account rfl rfl rfl (by decide +kernel) ⟨Nat.le_of_ble_eq_true rfl, Nat.le_of_ble_eq_true rfl⟩) hK hX hP hD hS hA (pk (bs := [(CLK ty aC tC pC hC kC sC)]) (bsc := [(CLK ty aC tC pC hC kC sC)]) (bsr := []) [0] [] 1 rfl (by decide +kernel) rfl rfl) rfl hl.1 rfl (Nat.le_of_ble_eq_true rfl) dL_sound_61 ⟨Nat.le_of_ble_eq_true rfl, Nat.le_of_ble_eq_true rfl⟩ (fun r_18 u_17 h_19 H locs hP hD hS => ?_)
    have h_r_18 : r_18 = Int32.toInt64 (pC.1 15) := h_19.trans (acc_3 _ _ _)
    subst h_r_18
    have hP : va_P D vwCl (fl [(CLK ty aC tC pC hC kC sC)]) H := hP
    have hD : va_D A (fl [(CLK ty aC tC pC hC kC sC)]) := hD
    refine k_ladd (v := ((((Int32.toInt64 (pC.1 12)) + (Int32.toInt64 (pC.1 13))) + (Int32.toInt64 (pC.1 14))) + (Int32.toInt64 (pC.1 15)))) hx hb dL_sound_64 rfl ?_
    refine lv_lstore (lv' := [(4, .long ((((Int32.toInt64 (pC.1 12)) + (Int32.toInt64 (pC.1 13))) + (Int32.toInt64 (pC.1 14))) + (Int32.toInt64 (pC.1 15)))), (3, .int (pdom pC.1)), (2, .int (pC.1 7)), (1, .int (pC.1 6)), (0, .ref (aC.1 0))]) hx hb dL_sound_65 hl (by decide) rfl (fun ls hl => ?_)
    refine lv_iconst (v := 0) hx hb dL_sound_67 (by decide) ?_
    refine lv_istore (lv' := [(6, .int 0), (4, .long ((((Int32.toInt64 (pC.1 12)) + (Int32.toInt64 (pC.1 13))) + (Int32.toInt64 (pC.1 14))) + (Int32.toInt64 (pC.1 15)))), (3, .int (pdom pC.1)), (2, .int (pC.1 7)), (1, .int (pC.1 6)), (0, .ref (aC.1 0))]) hx hb dL_sound_68 hl (by decide) rfl (fun ls hl => ?_)
    refine lv_iconst (v := 0) hx hb dL_sound_70 (by decide) ?_
    refine lv_istore (lv' := [(7, .int 0), (6, .int 0), (4, .long ((((Int32.toInt64 (pC.1 12)) + (Int32.toInt64 (pC.1 13))) + (Int32.toInt64 (pC.1 14))) + (Int32.toInt64 (pC.1 15)))), (3, .int (pdom pC.1)), (2, .int (pC.1 7)), (1, .int (pC.1 6)), (0, .ref (aC.1 0))]) hx hb dL_sound_71 hl (by decide) rfl (fun ls hl => ?_)
    refine lv_iconst (v := 0) hx hb dL_sound_73 (by decide) ?_
    refine lv_istore (lv' := [(8, .int 0), (7, .int 0), (6, .int 0), (4, .long ((((Int32.toInt64 (pC.1 12)) + (Int32.toInt64 (pC.1 13))) + (Int32.toInt64 (pC.1 14))) + (Int32.toInt64 (pC.1 15)))), (3, .int (pdom pC.1)), (2, .int (pC.1 7)), (1, .int (pC.1 6)), (0, .ref (aC.1 0))]) hx hb dL_sound_74 hl (by decide) rfl (fun ls hl => ?_)
    refine lv_iload hx hb dL_sound_76 (lv_at hl 0 rfl) ?_
    refine lv_iconst (v := 4) hx hb dL_sound_78 (by decide) ?_
    refine lv_icmp_ge (tgt := 112) hx hb dL_sound_79 (by decide) (fun c_20 => ?_) (fun c_20 => ?_)
    · exact absurd c_20 (by decide)
    · skip
      refine lv_iload hx hb dL_sound_82 (lv_at hl 2 rfl) ?_
      refine lv_aload_n hx hb dL_sound_84 rfl (lv_at hl 7 rfl) ?_
      refine lv_iload hx hb dL_sound_85 (lv_at hl 0 rfl) ?_
      refine lv_iconst (v := 1) hx hb dL_sound_87 (by decide) ?_
      refine cSWi (As := [.ref (aC.1 0), .int 0, .int 1]) (rest := [.int 0]) ⟨hx, hb, hml, hown, hts⟩ (k_alarm l D ty 0 1 aC tC pC hC kC sC hst ((inI_d (by decide +kernel))) ((inR_d (by decide +kernel)))) (vx_cwSW 3 hts gL_sound_L_tryAlarm rfl rfl rfl (by decide +kernel) ⟨Nat.le_of_ble_eq_true rfl, Nat.le_of_ble_eq_true rfl⟩) hK hX hP hD hS hA (pk (bs := [(CLK ty aC tC pC hC kC sC)]) (bsc := [(CLK ty aC tC pC hC kC sC)]) (bsr := []) [0] [] 1 rfl (by decide +kernel) rfl rfl) rfl hl.1 rfl (Nat.le_of_ble_eq_true rfl) dL_sound_88 ⟨Nat.le_of_ble_eq_true rfl, Nat.le_of_ble_eq_true rfl⟩ (fun r_22 u_21 h_23 H locs hP hD hS => ?_)
      have h_r_22 : r_22 = bz (pC.1 28) := h_23.trans (al_1 _ 0)
      subst h_r_22
      have hP : va_P D vwCl (fl [(CLK ty aC tC pC hC kC sC)]) H := hP
      have hD : va_D A (fl [(CLK ty aC tC pC hC kC sC)]) := hD
      refine k_iadd (v := (0 + (bz (pC.1 28)))) hx hb dL_sound_91 rfl ?_
      refine lv_istore (lv' := [(6, .int (0 + (bz (pC.1 28)))), (8, .int 0), (7, .int 0), (4, .long ((((Int32.toInt64 (pC.1 12)) + (Int32.toInt64 (pC.1 13))) + (Int32.toInt64 (pC.1 14))) + (Int32.toInt64 (pC.1 15)))), (3, .int (pdom pC.1)), (2, .int (pC.1 7)), (1, .int (pC.1 6)), (0, .ref (aC.1 0))]) hx hb dL_sound_92 hl (by decide) rfl (fun ls hl => ?_)
      refine lv_iload hx hb dL_sound_94 (lv_at hl 2 rfl) ?_
      refine lv_aload_n hx hb dL_sound_96 rfl (lv_at hl 7 rfl) ?_
      refine lv_iload hx hb dL_sound_97 (lv_at hl 1 rfl) ?_
      refine lv_iconst (v := 2) hx hb dL_sound_99 (by decide) ?_
      refine cSWi (As := [.ref (aC.1 0), .int 0, .int 2]) (rest := [.int 0]) ⟨hx, hb, hml, hown, hts⟩ (k_alarm l D ty 0 2 aC tC pC hC kC sC hst ((inI_d (by decide +kernel))) ((inR_d (by decide +kernel)))) (vx_cwSW 3 hts gL_sound_L_tryAlarm rfl rfl rfl (by decide +kernel) ⟨Nat.le_of_ble_eq_true rfl, Nat.le_of_ble_eq_true rfl⟩) hK hX hP hD hS hA (pk (bs := [(CLK ty aC tC pC hC kC sC)]) (bsc := [(CLK ty aC tC pC hC kC sC)]) (bsr := []) [0] [] 1 rfl (by decide +kernel) rfl rfl) rfl hl.1 rfl (Nat.le_of_ble_eq_true rfl) dL_sound_100 ⟨Nat.le_of_ble_eq_true rfl, Nat.le_of_ble_eq_true rfl⟩ (fun r_25 u_24 h_26 H locs hP hD hS => ?_)
      have h_r_25 : r_25 = pC.1 29 := h_26.trans (al_2 _ 0)
      subst h_r_25
      have hP : va_P D vwCl (fl [(CLK ty aC tC pC hC kC sC)]) H := hP
      have hD : va_D A (fl [(CLK ty aC tC pC hC kC sC)]) := hD
      refine k_iadd (v := (0 + (pC.1 29))) hx hb dL_sound_103 rfl ?_
      refine lv_istore (lv' := [(7, .int (0 + (pC.1 29))), (6, .int (0 + (bz (pC.1 28)))), (8, .int 0), (4, .long ((((Int32.toInt64 (pC.1 12)) + (Int32.toInt64 (pC.1 13))) + (Int32.toInt64 (pC.1 14))) + (Int32.toInt64 (pC.1 15)))), (3, .int (pdom pC.1)), (2, .int (pC.1 7)), (1, .int (pC.1 6)), (0, .ref (aC.1 0))]) hx hb dL_sound_104 hl (by decide) rfl (fun ls hl => ?_)
      refine lv_iinc (v := 1) (lv' := [(8, .int 1), (7, .int (0 + (pC.1 29))), (6, .int (0 + (bz (pC.1 28)))), (4, .long ((((Int32.toInt64 (pC.1 12)) + (Int32.toInt64 (pC.1 13))) + (Int32.toInt64 (pC.1 14))) + (Int32.toInt64 (pC.1 15)))), (3, .int (pdom pC.1)), (2, .int (pC.1 7)), (1, .int (pC.1 6)), (0, .ref (aC.1 0))]) hx hb dL_sound_106 hl (k := 2) rfl (by decide) (by decide) rfl (fun ls hl => ?_)
      refine lv_goto (tgt := 76) hx hb dL_sound_109 (by decide) ?_
      refine lv_iload hx hb dL_sound_76 (lv_at hl 0 rfl) ?_
      refine lv_iconst (v := 4) hx hb dL_sound_78 (by decide) ?_
      refine lv_icmp_ge (tgt := 112) hx hb dL_sound_79 (by decide) (fun c_27 => ?_) (fun c_27 => ?_)
      · exact absurd c_27 (by decide)
      · skip
        refine lv_iload hx hb dL_sound_82 (lv_at hl 2 rfl) ?_
        refine lv_aload_n hx hb dL_sound_84 rfl (lv_at hl 7 rfl) ?_
        refine lv_iload hx hb dL_sound_85 (lv_at hl 0 rfl) ?_
        refine lv_iconst (v := 1) hx hb dL_sound_87 (by decide) ?_
        refine cSWi (As := [.ref (aC.1 0), .int 1, .int 1]) (rest := [.int (0 + (bz (pC.1 28)))]) ⟨hx, hb, hml, hown, hts⟩ (k_alarm l D ty 1 1 aC tC pC hC kC sC hst ((inI_d (by decide +kernel))) ((inR_d (by decide +kernel)))) (vx_cwSW 3 hts gL_sound_L_tryAlarm rfl rfl rfl (by decide +kernel) ⟨Nat.le_of_ble_eq_true rfl, Nat.le_of_ble_eq_true rfl⟩) hK hX hP hD hS hA (pk (bs := [(CLK ty aC tC pC hC kC sC)]) (bsc := [(CLK ty aC tC pC hC kC sC)]) (bsr := []) [0] [] 1 rfl (by decide +kernel) rfl rfl) rfl hl.1 rfl (Nat.le_of_ble_eq_true rfl) dL_sound_88 ⟨Nat.le_of_ble_eq_true rfl, Nat.le_of_ble_eq_true rfl⟩ (fun r_29 u_28 h_30 H locs hP hD hS => ?_)
        have h_r_29 : r_29 = bz (pC.1 31) := h_30.trans (al_1 _ 1)
        subst h_r_29
        have hP : va_P D vwCl (fl [(CLK ty aC tC pC hC kC sC)]) H := hP
        have hD : va_D A (fl [(CLK ty aC tC pC hC kC sC)]) := hD
        refine k_iadd (v := ((0 + (bz (pC.1 28))) + (bz (pC.1 31)))) hx hb dL_sound_91 rfl ?_
        refine lv_istore (lv' := [(6, .int ((0 + (bz (pC.1 28))) + (bz (pC.1 31)))), (8, .int 1), (7, .int (0 + (pC.1 29))), (4, .long ((((Int32.toInt64 (pC.1 12)) + (Int32.toInt64 (pC.1 13))) + (Int32.toInt64 (pC.1 14))) + (Int32.toInt64 (pC.1 15)))), (3, .int (pdom pC.1)), (2, .int (pC.1 7)), (1, .int (pC.1 6)), (0, .ref (aC.1 0))]) hx hb dL_sound_92 hl (by decide) rfl (fun ls hl => ?_)
        refine lv_iload hx hb dL_sound_94 (lv_at hl 2 rfl) ?_
        refine lv_aload_n hx hb dL_sound_96 rfl (lv_at hl 7 rfl) ?_
        refine lv_iload hx hb dL_sound_97 (lv_at hl 1 rfl) ?_
        refine lv_iconst (v := 2) hx hb dL_sound_99 (by decide) ?_
        refine cSWi (As := [.ref (aC.1 0), .int 1, .int 2]) (rest := [.int (0 + (pC.1 29))]) ⟨hx, hb, hml, hown, hts⟩ (k_alarm l D ty 1 2 aC tC pC hC kC sC hst ((inI_d (by decide +kernel))) ((inR_d (by decide +kernel)))) (vx_cwSW 3 hts gL_sound_L_tryAlarm rfl rfl rfl (by decide +kernel) ⟨Nat.le_of_ble_eq_true rfl, Nat.le_of_ble_eq_true rfl⟩) hK hX hP hD hS hA (pk (bs := [(CLK ty aC tC pC hC kC sC)]) (bsc := [(CLK ty aC tC pC hC kC sC)]) (bsr := []) [0] [] 1 rfl (by decide +kernel) rfl rfl) rfl hl.1 rfl (Nat.le_of_ble_eq_true rfl) dL_sound_100 ⟨Nat.le_of_ble_eq_true rfl, Nat.le_of_ble_eq_true rfl⟩ (fun r_32 u_31 h_33 H locs hP hD hS => ?_)
        have h_r_32 : r_32 = pC.1 32 := h_33.trans (al_2 _ 1)
        subst h_r_32
        have hP : va_P D vwCl (fl [(CLK ty aC tC pC hC kC sC)]) H := hP
        have hD : va_D A (fl [(CLK ty aC tC pC hC kC sC)]) := hD
        refine k_iadd (v := ((0 + (pC.1 29)) + (pC.1 32))) hx hb dL_sound_103 rfl ?_
        refine lv_istore (lv' := [(7, .int ((0 + (pC.1 29)) + (pC.1 32))), (6, .int ((0 + (bz (pC.1 28))) + (bz (pC.1 31)))), (8, .int 1), (4, .long ((((Int32.toInt64 (pC.1 12)) + (Int32.toInt64 (pC.1 13))) + (Int32.toInt64 (pC.1 14))) + (Int32.toInt64 (pC.1 15)))), (3, .int (pdom pC.1)), (2, .int (pC.1 7)), (1, .int (pC.1 6)), (0, .ref (aC.1 0))]) hx hb dL_sound_104 hl (by decide) rfl (fun ls hl => ?_)
        refine lv_iinc (v := 2) (lv' := [(8, .int 2), (7, .int ((0 + (pC.1 29)) + (pC.1 32))), (6, .int ((0 + (bz (pC.1 28))) + (bz (pC.1 31)))), (4, .long ((((Int32.toInt64 (pC.1 12)) + (Int32.toInt64 (pC.1 13))) + (Int32.toInt64 (pC.1 14))) + (Int32.toInt64 (pC.1 15)))), (3, .int (pdom pC.1)), (2, .int (pC.1 7)), (1, .int (pC.1 6)), (0, .ref (aC.1 0))]) hx hb dL_sound_106 hl (k := 2) rfl (by decide) (by decide) rfl (fun ls hl => ?_)
        refine lv_goto (tgt := 76) hx hb dL_sound_109 (by decide) ?_
        refine lv_iload hx hb dL_sound_76 (lv_at hl 0 rfl) ?_
        refine lv_iconst (v := 4) hx hb dL_sound_78 (by decide) ?_
        refine lv_icmp_ge (tgt := 112) hx hb dL_sound_79 (by decide) (fun c_34 => ?_) (fun c_34 => ?_)
        · exact absurd c_34 (by decide)
        · skip
          refine lv_iload hx hb dL_sound_82 (lv_at hl 2 rfl) ?_
          refine lv_aload_n hx hb dL_sound_84 rfl (lv_at hl 7 rfl) ?_
          refine lv_iload hx hb dL_sound_85 (lv_at hl 0 rfl) ?_
          refine lv_iconst (v := 1) hx hb dL_sound_87 (by decide) ?_
          refine cSWi (As := [.ref (aC.1 0), .int 2, .int 1]) (rest := [.int ((0 + (bz (pC.1 28))) + (bz (pC.1 31)))]) ⟨hx, hb, hml, hown, hts⟩ (k_alarm l D ty 2 1 aC tC pC hC kC sC hst ((inI_d (by decide +kernel))) ((inR_d (by decide +kernel)))) (vx_cwSW 3 hts gL_sound_L_tryAlarm rfl rfl rfl (by decide +kernel) ⟨Nat.le_of_ble_eq_true rfl, Nat.le_of_ble_eq_true rfl⟩) hK hX hP hD hS hA (pk (bs := [(CLK ty aC tC pC hC kC sC)]) (bsc := [(CLK ty aC tC pC hC kC sC)]) (bsr := []) [0] [] 1 rfl (by decide +kernel) rfl rfl) rfl hl.1 rfl (Nat.le_of_ble_eq_true rfl) dL_sound_88 ⟨Nat.le_of_ble_eq_true rfl, Nat.le_of_ble_eq_true rfl⟩ (fun r_36 u_35 h_37 H locs hP hD hS => ?_)
          have h_r_36 : r_36 = bz (pC.1 34) := h_37.trans (al_1 _ 2)
          subst h_r_36
          have hP : va_P D vwCl (fl [(CLK ty aC tC pC hC kC sC)]) H := hP
          have hD : va_D A (fl [(CLK ty aC tC pC hC kC sC)]) := hD
          refine k_iadd (v := (((0 + (bz (pC.1 28))) + (bz (pC.1 31))) + (bz (pC.1 34)))) hx hb dL_sound_91 rfl ?_
          refine lv_istore (lv' := [(6, .int (((0 + (bz (pC.1 28))) + (bz (pC.1 31))) + (bz (pC.1 34)))), (8, .int 2), (7, .int ((0 + (pC.1 29)) + (pC.1 32))), (4, .long ((((Int32.toInt64 (pC.1 12)) + (Int32.toInt64 (pC.1 13))) + (Int32.toInt64 (pC.1 14))) + (Int32.toInt64 (pC.1 15)))), (3, .int (pdom pC.1)), (2, .int (pC.1 7)), (1, .int (pC.1 6)), (0, .ref (aC.1 0))]) hx hb dL_sound_92 hl (by decide) rfl (fun ls hl => ?_)
          refine lv_iload hx hb dL_sound_94 (lv_at hl 2 rfl) ?_
          refine lv_aload_n hx hb dL_sound_96 rfl (lv_at hl 7 rfl) ?_
          refine lv_iload hx hb dL_sound_97 (lv_at hl 1 rfl) ?_
          refine lv_iconst (v := 2) hx hb dL_sound_99 (by decide) ?_
          refine cSWi (As := [.ref (aC.1 0), .int 2, .int 2]) (rest := [.int ((0 + (pC.1 29)) + (pC.1 32))]) ⟨hx, hb, hml, hown, hts⟩ (k_alarm l D ty 2 2 aC tC pC hC kC sC hst ((inI_d (by decide +kernel))) ((inR_d (by decide +kernel)))) (vx_cwSW 3 hts gL_sound_L_tryAlarm rfl rfl rfl (by decide +kernel) ⟨Nat.le_of_ble_eq_true rfl, Nat.le_of_ble_eq_true rfl⟩) hK hX hP hD hS hA (pk (bs := [(CLK ty aC tC pC hC kC sC)]) (bsc := [(CLK ty aC tC pC hC kC sC)]) (bsr := []) [0] [] 1 rfl (by decide +kernel) rfl rfl) rfl hl.1 rfl (Nat.le_of_ble_eq_true rfl) dL_sound_100 ⟨Nat.le_of_ble_eq_true rfl, Nat.le_of_ble_eq_true rfl⟩ (fun r_39 u_38 h_40 H locs hP hD hS => ?_)
          have h_r_39 : r_39 = pC.1 35 := h_40.trans (al_2 _ 2)
          subst h_r_39
          have hP : va_P D vwCl (fl [(CLK ty aC tC pC hC kC sC)]) H := hP
          have hD : va_D A (fl [(CLK ty aC tC pC hC kC sC)]) := hD
          refine k_iadd (v := (((0 + (pC.1 29)) + (pC.1 32)) + (pC.1 35))) hx hb dL_sound_103 rfl ?_
          refine lv_istore (lv' := [(7, .int (((0 + (pC.1 29)) + (pC.1 32)) + (pC.1 35))), (6, .int (((0 + (bz (pC.1 28))) + (bz (pC.1 31))) + (bz (pC.1 34)))), (8, .int 2), (4, .long ((((Int32.toInt64 (pC.1 12)) + (Int32.toInt64 (pC.1 13))) + (Int32.toInt64 (pC.1 14))) + (Int32.toInt64 (pC.1 15)))), (3, .int (pdom pC.1)), (2, .int (pC.1 7)), (1, .int (pC.1 6)), (0, .ref (aC.1 0))]) hx hb dL_sound_104 hl (by decide) rfl (fun ls hl => ?_)
          refine lv_iinc (v := 3) (lv' := [(8, .int 3), (7, .int (((0 + (pC.1 29)) + (pC.1 32)) + (pC.1 35))), (6, .int (((0 + (bz (pC.1 28))) + (bz (pC.1 31))) + (bz (pC.1 34)))), (4, .long ((((Int32.toInt64 (pC.1 12)) + (Int32.toInt64 (pC.1 13))) + (Int32.toInt64 (pC.1 14))) + (Int32.toInt64 (pC.1 15)))), (3, .int (pdom pC.1)), (2, .int (pC.1 7)), (1, .int (pC.1 6)), (0, .ref (aC.1 0))]) hx hb dL_sound_106 hl (k := 2) rfl (by decide) (by decide) rfl (fun ls hl => ?_)
          refine lv_goto (tgt := 76) hx hb dL_sound_109 (by decide) ?_
          refine lv_iload hx hb dL_sound_76 (lv_at hl 0 rfl) ?_
          refine lv_iconst (v := 4) hx hb dL_sound_78 (by decide) ?_
          refine lv_icmp_ge (tgt := 112) hx hb dL_sound_79 (by decide) (fun c_41 => ?_) (fun c_41 => ?_)
          · exact absurd c_41 (by decide)
          · skip
            refine lv_iload hx hb dL_sound_82 (lv_at hl 2 rfl) ?_
            refine lv_aload_n hx hb dL_sound_84 rfl (lv_at hl 7 rfl) ?_
            refine lv_iload hx hb dL_sound_85 (lv_at hl 0 rfl) ?_
            refine lv_iconst (v := 1) hx hb dL_sound_87 (by decide) ?_
            refine cSWi (As := [.ref (aC.1 0), .int 3, .int 1]) (rest := [.int (((0 + (bz (pC.1 28))) + (bz (pC.1 31))) + (bz (pC.1 34)))]) ⟨hx, hb, hml, hown, hts⟩ (k_alarm l D ty 3 1 aC tC pC hC kC sC hst ((inI_d (by decide +kernel))) ((inR_d (by decide +kernel)))) (vx_cwSW 3 hts gL_sound_L_tryAlarm rfl rfl rfl (by decide +kernel) ⟨Nat.le_of_ble_eq_true rfl, Nat.le_of_ble_eq_true rfl⟩) hK hX hP hD hS hA (pk (bs := [(CLK ty aC tC pC hC kC sC)]) (bsc := [(CLK ty aC tC pC hC kC sC)]) (bsr := []) [0] [] 1 rfl (by decide +kernel) rfl rfl) rfl hl.1 rfl (Nat.le_of_ble_eq_true rfl) dL_sound_88 ⟨Nat.le_of_ble_eq_true rfl, Nat.le_of_ble_eq_true rfl⟩ (fun r_43 u_42 h_44 H locs hP hD hS => ?_)
            have h_r_43 : r_43 = bz (pC.1 37) := h_44.trans (al_1 _ 3)
            subst h_r_43
            have hP : va_P D vwCl (fl [(CLK ty aC tC pC hC kC sC)]) H := hP
            have hD : va_D A (fl [(CLK ty aC tC pC hC kC sC)]) := hD
            refine k_iadd (v := ((((0 + (bz (pC.1 28))) + (bz (pC.1 31))) + (bz (pC.1 34))) + (bz (pC.1 37)))) hx hb dL_sound_91 rfl ?_
            refine lv_istore (lv' := [(6, .int ((((0 + (bz (pC.1 28))) + (bz (pC.1 31))) + (bz (pC.1 34))) + (bz (pC.1 37)))), (8, .int 3), (7, .int (((0 + (pC.1 29)) + (pC.1 32)) + (pC.1 35))), (4, .long ((((Int32.toInt64 (pC.1 12)) + (Int32.toInt64 (pC.1 13))) + (Int32.toInt64 (pC.1 14))) + (Int32.toInt64 (pC.1 15)))), (3, .int (pdom pC.1)), (2, .int (pC.1 7)), (1, .int (pC.1 6)), (0, .ref (aC.1 0))]) hx hb dL_sound_92 hl (by decide) rfl (fun ls hl => ?_)
            refine lv_iload hx hb dL_sound_94 (lv_at hl 2 rfl) ?_
            refine lv_aload_n hx hb dL_sound_96 rfl (lv_at hl 7 rfl) ?_
            refine lv_iload hx hb dL_sound_97 (lv_at hl 1 rfl) ?_
            refine lv_iconst (v := 2) hx hb dL_sound_99 (by decide) ?_
            refine cSWi (As := [.ref (aC.1 0), .int 3, .int 2]) (rest := [.int (((0 + (pC.1 29)) + (pC.1 32)) + (pC.1 35))]) ⟨hx, hb, hml, hown, hts⟩ (k_alarm l D ty 3 2 aC tC pC hC kC sC hst ((inI_d (by decide +kernel))) ((inR_d (by decide +kernel)))) (vx_cwSW 3 hts gL_sound_L_tryAlarm rfl rfl rfl (by decide +kernel) ⟨Nat.le_of_ble_eq_true rfl, Nat.le_of_ble_eq_true rfl⟩) hK hX hP hD hS hA (pk (bs := [(CLK ty aC tC pC hC kC sC)]) (bsc := [(CLK ty aC tC pC hC kC sC)]) (bsr := []) [0] [] 1 rfl (by decide +kernel) rfl rfl) rfl hl.1 rfl (Nat.le_of_ble_eq_true rfl) dL_sound_100 ⟨Nat.le_of_ble_eq_true rfl, Nat.le_of_ble_eq_true rfl⟩ (fun r_46 u_45 h_47 H locs hP hD hS => ?_)
            have h_r_46 : r_46 = pC.1 38 := h_47.trans (al_2 _ 3)
            subst h_r_46
            have hP : va_P D vwCl (fl [(CLK ty aC tC pC hC kC sC)]) H := hP
            have hD : va_D A (fl [(CLK ty aC tC pC hC kC sC)]) := hD
            refine k_iadd (v := ((((0 + (pC.1 29)) + (pC.1 32)) + (pC.1 35)) + (pC.1 38))) hx hb dL_sound_103 rfl ?_
            refine lv_istore (lv' := [(7, .int ((((0 + (pC.1 29)) + (pC.1 32)) + (pC.1 35)) + (pC.1 38))), (6, .int ((((0 + (bz (pC.1 28))) + (bz (pC.1 31))) + (bz (pC.1 34))) + (bz (pC.1 37)))), (8, .int 3), (4, .long ((((Int32.toInt64 (pC.1 12)) + (Int32.toInt64 (pC.1 13))) + (Int32.toInt64 (pC.1 14))) + (Int32.toInt64 (pC.1 15)))), (3, .int (pdom pC.1)), (2, .int (pC.1 7)), (1, .int (pC.1 6)), (0, .ref (aC.1 0))]) hx hb dL_sound_104 hl (by decide) rfl (fun ls hl => ?_)
            refine lv_iinc (v := 4) (lv' := [(8, .int 4), (7, .int ((((0 + (pC.1 29)) + (pC.1 32)) + (pC.1 35)) + (pC.1 38))), (6, .int ((((0 + (bz (pC.1 28))) + (bz (pC.1 31))) + (bz (pC.1 34))) + (bz (pC.1 37)))), (4, .long ((((Int32.toInt64 (pC.1 12)) + (Int32.toInt64 (pC.1 13))) + (Int32.toInt64 (pC.1 14))) + (Int32.toInt64 (pC.1 15)))), (3, .int (pdom pC.1)), (2, .int (pC.1 7)), (1, .int (pC.1 6)), (0, .ref (aC.1 0))]) hx hb dL_sound_106 hl (k := 2) rfl (by decide) (by decide) rfl (fun ls hl => ?_)
            refine lv_goto (tgt := 76) hx hb dL_sound_109 (by decide) ?_
            refine lv_iload hx hb dL_sound_76 (lv_at hl 0 rfl) ?_
            refine lv_iconst (v := 4) hx hb dL_sound_78 (by decide) ?_
            refine lv_icmp_ge (tgt := 112) hx hb dL_sound_79 (by decide) (fun c_48 => ?_) (fun c_48 => ?_)
            · skip
              refine lv_aload_n hx hb dL_sound_112 rfl (lv_at hl 7 rfl) ?_
              refine lv_bipush (v := 9) hx hb dL_sound_113 (by decide) ?_
              refine cSWi (As := [.ref (aC.1 0), .int 9]) (rest := []) ⟨hx, hb, hml, hown, hts⟩ (k_about l D ty 9 aC tC pC hC kC sC hst ((inR_d (by decide +kernel)))) (vx_cwSW 2 hts gL_sound_L_tryAbout rfl rfl rfl (by decide +kernel) ⟨Nat.le_of_ble_eq_true rfl, Nat.le_of_ble_eq_true rfl⟩) hK hX hP hD hS hA (pk (bs := [(CLK ty aC tC pC hC kC sC)]) (bsc := [(CLK ty aC tC pC hC kC sC)]) (bsr := []) [0] [] 1 rfl (by decide +kernel) rfl rfl) rfl hl.1 rfl (Nat.le_of_ble_eq_true rfl) dL_sound_115 ⟨Nat.le_of_ble_eq_true rfl, Nat.le_of_ble_eq_true rfl⟩ (fun r_50 u_49 h_51 H locs hP hD hS => ?_)
              have h_r_50 : r_50 = pdom pC.1 := h_51.trans (tell_9 _)
              subst h_r_50
              have hP : va_P D vwCl (fl [(CLK ty aC tC pC hC kC sC)]) H := hP
              have hD : va_D A (fl [(CLK ty aC tC pC hC kC sC)]) := hD
              refine lv_iload_n hx hb dL_sound_118 rfl (lv_at hl 4 rfl) ?_
              refine lv_icmp_ne (tgt := 261) hx hb dL_sound_119 (by decide) (fun c_52 => ?_) (fun c_52 => ?_)
              · first | exact absurd c_52 rfl | exact absurd rfl c_52
              · skip
                refine lv_aload_n hx hb dL_sound_122 rfl (lv_at hl 7 rfl) ?_
                refine cVi (As := []) (rest := []) ⟨hx, hb, hml, hown, hts⟩ (k_whyNot l D ty aC tC pC hC kC sC) (cwV 0 hts gL_sound_X9_whyNot rfl rfl rfl (by decide +kernel) ⟨Nat.le_of_ble_eq_true rfl, Nat.le_of_ble_eq_true rfl⟩) hK hX hP hD hS hA (pk (bs := [(CLK ty aC tC pC hC kC sC)]) (bsc := [(CLK ty aC tC pC hC kC sC)]) (bsr := []) [0] [] 1 rfl (by decide +kernel) rfl rfl) (ci := 8) rfl 0 rfl rfl hl.1 rfl (Nat.le_of_ble_eq_true rfl) dL_sound_123 ⟨Nat.le_of_ble_eq_true rfl, Nat.le_of_ble_eq_true rfl⟩ (fun r_54 u_53 h_55 H locs hP hD hS => ?_)
                have h_r_54 : r_54 = (pdom pC.1) := h_55
                subst h_r_54
                have hP : va_P D vwCl (fl [(CLK ty aC tC pC hC kC sC)]) H := hP
                have hD : va_D A (fl [(CLK ty aC tC pC hC kC sC)]) := hD
                refine lv_iload_n hx hb dL_sound_126 rfl (lv_at hl 4 rfl) ?_
                refine lv_icmp_ne (tgt := 261) hx hb dL_sound_127 (by decide) (fun c_56 => ?_) (fun c_56 => ?_)
                · first | exact absurd c_56 c_52 | exact absurd c_52 c_56
                · skip
                  refine lv_lload hx hb dL_sound_130 (lv_at hl 3 rfl) ?_
                  refine lv_aload_n hx hb dL_sound_132 rfl (lv_at hl 7 rfl) ?_
                  refine lv_iconst (v := 0) hx hb dL_sound_133 (by decide) ?_
                  refine cSWi (As := [.ref (aC.1 0), .int 0]) (rest := [.long ((((Int32.toInt64 (pC.1 12)) + (Int32.toInt64 (pC.1 13))) + (Int32.toInt64 (pC.1 14))) + (Int32.toInt64 (pC.1 15)))]) ⟨hx, hb, hml, hown, hts⟩ (k_about l D ty 0 aC tC pC hC kC sC hst ((inR_d (by decide +kernel)))) (vx_cwSW 2 hts gL_sound_L_tryAbout rfl rfl rfl (by decide +kernel) ⟨Nat.le_of_ble_eq_true rfl, Nat.le_of_ble_eq_true rfl⟩) hK hX hP hD hS hA (pk (bs := [(CLK ty aC tC pC hC kC sC)]) (bsc := [(CLK ty aC tC pC hC kC sC)]) (bsr := []) [0] [] 1 rfl (by decide +kernel) rfl rfl) rfl hl.1 rfl (Nat.le_of_ble_eq_true rfl) dL_sound_134 ⟨Nat.le_of_ble_eq_true rfl, Nat.le_of_ble_eq_true rfl⟩ (fun r_58 u_57 h_59 H locs hP hD hS => ?_)
                  have h_r_58 : r_58 = pC.1 0 := h_59.trans (tell_0 _)
                  subst h_r_58
                  have hP : va_P D vwCl (fl [(CLK ty aC tC pC hC kC sC)]) H := hP
                  have hD : va_D A (fl [(CLK ty aC tC pC hC kC sC)]) := hD
                  refine lv_i2l (v := (Int32.toInt64 (pC.1 0))) hx hb dL_sound_137 rfl ?_
                  refine W.lcmp hx hb dL_sound_138 ?_
                  refine lv_if_ne (tgt := 261) hx hb dL_sound_139 (by decide) (fun c_60 => ?_) (fun c_60 => ?_)
                  · first | exact absurd c_60 (SG_acc hG hM) | exact absurd (SG_acc hG hM) c_60
                  · skip
                    refine lv_aload_n hx hb dL_sound_142 rfl (lv_at hl 7 rfl) ?_
                    refine lv_iconst (v := 5) hx hb dL_sound_143 (by decide) ?_
                    refine cSWi (As := [.ref (aC.1 0), .int 5]) (rest := []) ⟨hx, hb, hml, hown, hts⟩ (k_about l D ty 5 aC tC pC hC kC sC hst ((inR_d (by decide +kernel)))) (vx_cwSW 2 hts gL_sound_L_tryAbout rfl rfl rfl (by decide +kernel) ⟨Nat.le_of_ble_eq_true rfl, Nat.le_of_ble_eq_true rfl⟩) hK hX hP hD hS hA (pk (bs := [(CLK ty aC tC pC hC kC sC)]) (bsc := [(CLK ty aC tC pC hC kC sC)]) (bsr := []) [0] [] 1 rfl (by decide +kernel) rfl rfl) rfl hl.1 rfl (Nat.le_of_ble_eq_true rfl) dL_sound_144 ⟨Nat.le_of_ble_eq_true rfl, Nat.le_of_ble_eq_true rfl⟩ (fun r_62 u_61 h_63 H locs hP hD hS => ?_)
                    have h_r_62 : r_62 = poff pC.1 := h_63.trans (tell_5 _)
                    subst h_r_62
                    have hP : va_P D vwCl (fl [(CLK ty aC tC pC hC kC sC)]) H := hP
                    have hD : va_D A (fl [(CLK ty aC tC pC hC kC sC)]) := hD
                    refine lv_aload_n hx hb dL_sound_147 rfl (lv_at hl 7 rfl) ?_
                    refine lv_iconst (v := 1) hx hb dL_sound_148 (by decide) ?_
                    refine cSWi (As := [.ref (aC.1 0), .int 1]) (rest := [.int (poff pC.1)]) ⟨hx, hb, hml, hown, hts⟩ (k_about l D ty 1 aC tC pC hC kC sC hst ((inR_d (by decide +kernel)))) (vx_cwSW 2 hts gL_sound_L_tryAbout rfl rfl rfl (by decide +kernel) ⟨Nat.le_of_ble_eq_true rfl, Nat.le_of_ble_eq_true rfl⟩) hK hX hP hD hS hA (pk (bs := [(CLK ty aC tC pC hC kC sC)]) (bsc := [(CLK ty aC tC pC hC kC sC)]) (bsr := []) [0] [] 1 rfl (by decide +kernel) rfl rfl) rfl hl.1 rfl (Nat.le_of_ble_eq_true rfl) dL_sound_149 ⟨Nat.le_of_ble_eq_true rfl, Nat.le_of_ble_eq_true rfl⟩ (fun r_65 u_64 h_66 H locs hP hD hS => ?_)
                    have h_r_65 : r_65 = pC.1 1 := h_66.trans (tell_1 _)
                    subst h_r_65
                    have hP : va_P D vwCl (fl [(CLK ty aC tC pC hC kC sC)]) H := hP
                    have hD : va_D A (fl [(CLK ty aC tC pC hC kC sC)]) := hD
                    refine lv_bipush (v := 60) hx hb dL_sound_152 (by decide) ?_
                    refine lv_aload_n hx hb dL_sound_154 rfl (lv_at hl 7 rfl) ?_
                    refine lv_iconst (v := 0) hx hb dL_sound_155 (by decide) ?_
                    refine cSWi (As := [.ref (aC.1 0), .int 0]) (rest := [.int 60, .int (pC.1 1), .int (poff pC.1)]) ⟨hx, hb, hml, hown, hts⟩ (k_about l D ty 0 aC tC pC hC kC sC hst ((inR_d (by decide +kernel)))) (vx_cwSW 2 hts gL_sound_L_tryAbout rfl rfl rfl (by decide +kernel) ⟨Nat.le_of_ble_eq_true rfl, Nat.le_of_ble_eq_true rfl⟩) hK hX hP hD hS hA (pk (bs := [(CLK ty aC tC pC hC kC sC)]) (bsc := [(CLK ty aC tC pC hC kC sC)]) (bsr := []) [0] [] 1 rfl (by decide +kernel) rfl rfl) rfl hl.1 rfl (Nat.le_of_ble_eq_true rfl) dL_sound_156 ⟨Nat.le_of_ble_eq_true rfl, Nat.le_of_ble_eq_true rfl⟩ (fun r_68 u_67 h_69 H locs hP hD hS => ?_)
                    have h_r_68 : r_68 = pC.1 0 := h_69.trans (tell_0 _)
                    subst h_r_68
                    have hP : va_P D vwCl (fl [(CLK ty aC tC pC hC kC sC)]) H := hP
                    have hD : va_D A (fl [(CLK ty aC tC pC hC kC sC)]) := hD
                    refine k_imul (v := (60 * (pC.1 0))) hx hb dL_sound_159 rfl ?_
                    refine k_isub (v := ((pC.1 1) - (60 * (pC.1 0)))) hx hb dL_sound_160 rfl ?_
                    refine lv_icmp_ne (tgt := 261) hx hb dL_sound_161 (by decide) (fun c_70 => ?_) (fun c_70 => ?_)
                    · first | exact absurd c_70 ((show (poff pC.1) = ((pC.1 1) - (60 * (pC.1 0))) from rfl)) | exact absurd ((show (poff pC.1) = ((pC.1 1) - (60 * (pC.1 0))) from rfl)) c_70
                    · skip
                      refine lv_aload_n hx hb dL_sound_164 rfl (lv_at hl 7 rfl) ?_
                      refine lv_iconst (v := 2) hx hb dL_sound_165 (by decide) ?_
                      refine cSWi (As := [.ref (aC.1 0), .int 2]) (rest := []) ⟨hx, hb, hml, hown, hts⟩ (k_about l D ty 2 aC tC pC hC kC sC hst ((inR_d (by decide +kernel)))) (vx_cwSW 2 hts gL_sound_L_tryAbout rfl rfl rfl (by decide +kernel) ⟨Nat.le_of_ble_eq_true rfl, Nat.le_of_ble_eq_true rfl⟩) hK hX hP hD hS hA (pk (bs := [(CLK ty aC tC pC hC kC sC)]) (bsc := [(CLK ty aC tC pC hC kC sC)]) (bsr := []) [0] [] 1 rfl (by decide +kernel) rfl rfl) rfl hl.1 rfl (Nat.le_of_ble_eq_true rfl) dL_sound_166 ⟨Nat.le_of_ble_eq_true rfl, Nat.le_of_ble_eq_true rfl⟩ (fun r_72 u_71 h_73 H locs hP hD hS => ?_)
                      have h_r_72 : r_72 = pC.1 2 := h_73.trans (tell_2 _)
                      subst h_r_72
                      have hP : va_P D vwCl (fl [(CLK ty aC tC pC hC kC sC)]) H := hP
                      have hD : va_D A (fl [(CLK ty aC tC pC hC kC sC)]) := hD
                      refine cSi (As := [.int (pC.1 2)]) (rest := []) ⟨hx, hb, hml, hown, hts⟩ (k_size l D ty (pC.1 2)) (va_cwS 1 hts gL_sound_L_size rfl rfl rfl (by decide +kernel) ⟨Nat.le_of_ble_eq_true rfl, Nat.le_of_ble_eq_true rfl⟩) hK hX hP hD hS hA (pk (bs := [(CLK ty aC tC pC hC kC sC)]) (bsc := []) (bsr := [(CLK ty aC tC pC hC kC sC)]) [] [0] 1 rfl (by decide +kernel) rfl rfl) rfl hl.1 rfl (Nat.le_of_ble_eq_true rfl) dL_sound_169 ⟨Nat.le_of_ble_eq_true rfl, Nat.le_of_ble_eq_true rfl⟩ (fun r_75 u_74 h_76 H locs hP hD hS => ?_)
                      have h_r_75 : r_75 = (if (pC.1 2) < 0 then -(pC.1 2) else (pC.1 2)) := h_76
                      subst h_r_75
                      have hP : va_P D vwCl (fl [(CLK ty aC tC pC hC kC sC)]) H := hP
                      have hD : va_D A (fl [(CLK ty aC tC pC hC kC sC)]) := hD
                      refine lv_ldc hx hb hown (hts (Cond.constant RL 227 (1000000)) (List.mem_of_getElem? (i := 1) rfl)) dL_sound_172 ?_
                      refine lv_icmp_ge (tgt := 261) hx hb dL_sound_174 (by decide) (fun c_77 => ?_) (fun c_77 => ?_)
                      · first | exact absurd c_77 (SG_rest hG) | exact absurd (SG_rest hG) c_77
                      · skip
                        refine lv_iload hx hb dL_sound_177 (lv_at hl 2 rfl) ?_
                        refine lv_aload_n hx hb dL_sound_179 rfl (lv_at hl 7 rfl) ?_
                        refine lv_bipush (v := 13) hx hb dL_sound_180 (by decide) ?_
                        refine cSWi (As := [.ref (aC.1 0), .int 13]) (rest := [.int ((((0 + (bz (pC.1 28))) + (bz (pC.1 31))) + (bz (pC.1 34))) + (bz (pC.1 37)))]) ⟨hx, hb, hml, hown, hts⟩ (k_about l D ty 13 aC tC pC hC kC sC hst ((inR_d (by decide +kernel)))) (vx_cwSW 2 hts gL_sound_L_tryAbout rfl rfl rfl (by decide +kernel) ⟨Nat.le_of_ble_eq_true rfl, Nat.le_of_ble_eq_true rfl⟩) hK hX hP hD hS hA (pk (bs := [(CLK ty aC tC pC hC kC sC)]) (bsc := [(CLK ty aC tC pC hC kC sC)]) (bsr := []) [0] [] 1 rfl (by decide +kernel) rfl rfl) rfl hl.1 rfl (Nat.le_of_ble_eq_true rfl) dL_sound_182 ⟨Nat.le_of_ble_eq_true rfl, Nat.le_of_ble_eq_true rfl⟩ (fun r_79 u_78 h_80 H locs hP hD hS => ?_)
                        have h_r_79 : r_79 = waitN pC.1 := h_80.trans (tell_13 _)
                        subst h_r_79
                        have hP : va_P D vwCl (fl [(CLK ty aC tC pC hC kC sC)]) H := hP
                        have hD : va_D A (fl [(CLK ty aC tC pC hC kC sC)]) := hD
                        refine lv_icmp_ne (tgt := 261) hx hb dL_sound_185 (by decide) (fun c_81 => ?_) (fun c_81 => ?_)
                        · first | exact absurd c_81 ((show ((((0 + (bz (pC.1 28))) + (bz (pC.1 31))) + (bz (pC.1 34))) + (bz (pC.1 37))) = (waitN pC.1) from rfl)) | exact absurd ((show ((((0 + (bz (pC.1 28))) + (bz (pC.1 31))) + (bz (pC.1 34))) + (bz (pC.1 37))) = (waitN pC.1) from rfl)) c_81
                        · skip
                          refine lv_iload hx hb dL_sound_188 (lv_at hl 1 rfl) ?_
                          refine lv_aload_n hx hb dL_sound_190 rfl (lv_at hl 7 rfl) ?_
                          refine lv_bipush (v := 12) hx hb dL_sound_191 (by decide) ?_
                          refine cSWi (As := [.ref (aC.1 0), .int 12]) (rest := [.int ((((0 + (pC.1 29)) + (pC.1 32)) + (pC.1 35)) + (pC.1 38))]) ⟨hx, hb, hml, hown, hts⟩ (k_about l D ty 12 aC tC pC hC kC sC hst ((inR_d (by decide +kernel)))) (vx_cwSW 2 hts gL_sound_L_tryAbout rfl rfl rfl (by decide +kernel) ⟨Nat.le_of_ble_eq_true rfl, Nat.le_of_ble_eq_true rfl⟩) hK hX hP hD hS hA (pk (bs := [(CLK ty aC tC pC hC kC sC)]) (bsc := [(CLK ty aC tC pC hC kC sC)]) (bsr := []) [0] [] 1 rfl (by decide +kernel) rfl rfl) rfl hl.1 rfl (Nat.le_of_ble_eq_true rfl) dL_sound_193 ⟨Nat.le_of_ble_eq_true rfl, Nat.le_of_ble_eq_true rfl⟩ (fun r_83 u_82 h_84 H locs hP hD hS => ?_)
                          have h_r_83 : r_83 = ringN pC.1 := h_84.trans (tell_12 _)
                          subst h_r_83
                          have hP : va_P D vwCl (fl [(CLK ty aC tC pC hC kC sC)]) H := hP
                          have hD : va_D A (fl [(CLK ty aC tC pC hC kC sC)]) := hD
                          refine lv_icmp_ne (tgt := 261) hx hb dL_sound_196 (by decide) (fun c_85 => ?_) (fun c_85 => ?_)
                          · first | exact absurd c_85 ((show ((((0 + (pC.1 29)) + (pC.1 32)) + (pC.1 35)) + (pC.1 38)) = (ringN pC.1) from rfl)) | exact absurd ((show ((((0 + (pC.1 29)) + (pC.1 32)) + (pC.1 35)) + (pC.1 38)) = (ringN pC.1) from rfl)) c_85
                          · skip
                            have hJ214_85 : ∀ (H : Heap) (locs : List Loc), va_P D vwCl (fl [(CLK ty aC tC pC hC kC sC)]) H → va_D A (fl [(CLK ty aC tC pC hC kC sC)]) → va_S A s.heap H locs → ∀ ls : Array Slot, lv_has ls 10 [(8, .int 4), (7, .int ((((0 + (pC.1 29)) + (pC.1 32)) + (pC.1 35)) + (pC.1 38))), (6, .int ((((0 + (bz (pC.1 28))) + (bz (pC.1 31))) + (bz (pC.1 34))) + (bz (pC.1 37)))), (4, .long ((((Int32.toInt64 (pC.1 12)) + (Int32.toInt64 (pC.1 13))) + (Int32.toInt64 (pC.1 14))) + (Int32.toInt64 (pC.1 15)))), (3, .int (pdom pC.1)), (2, .int (pC.1 7)), (1, .int (pC.1 6)), (0, .ref (aC.1 0))] → W p l e ({ frames := 9, cells := 88, slots := 528, locals := 149 } : Room) s m args below meth c H locs 30 180 Qg (F0 m 214 ls []) := by
                              intro H locs hP hD hS ls hl
                              refine lv_aload_n hx hb dL_sound_214 rfl (lv_at hl 7 rfl) ?_
                              refine lv_bipush (v := 10) hx hb dL_sound_215 (by decide) ?_
                              refine cSWi (As := [.ref (aC.1 0), .int 10]) (rest := []) ⟨hx, hb, hml, hown, hts⟩ (k_about l D ty 10 aC tC pC hC kC sC hst ((inR_d (by decide +kernel)))) (vx_cwSW 2 hts gL_sound_L_tryAbout rfl rfl rfl (by decide +kernel) ⟨Nat.le_of_ble_eq_true rfl, Nat.le_of_ble_eq_true rfl⟩) hK hX hP hD hS hA (pk (bs := [(CLK ty aC tC pC hC kC sC)]) (bsc := [(CLK ty aC tC pC hC kC sC)]) (bsr := []) [0] [] 1 rfl (by decide +kernel) rfl rfl) rfl hl.1 rfl (Nat.le_of_ble_eq_true rfl) dL_sound_217 ⟨Nat.le_of_ble_eq_true rfl, Nat.le_of_ble_eq_true rfl⟩ (fun r_88 u_87 h_89 H locs hP hD hS => ?_)
                              have h_r_88 : r_88 = pC.1 11 := h_89.trans (tell_10 _)
                              subst h_r_88
                              have hP : va_P D vwCl (fl [(CLK ty aC tC pC hC kC sC)]) H := hP
                              have hD : va_D A (fl [(CLK ty aC tC pC hC kC sC)]) := hD
                              refine lv_bipush (v := 6) hx hb dL_sound_220 (by decide) ?_
                              refine lv_icmp_gt (tgt := 261) hx hb dL_sound_222 (by decide) (fun c_90 => ?_) (fun c_90 => ?_)
                              · first | exact absurd c_90 (SG_row6 hG) | exact absurd (SG_row6 hG) c_90
                              · skip
                                refine lv_aload_n hx hb dL_sound_225 rfl (lv_at hl 7 rfl) ?_
                                refine lv_bipush (v := 10) hx hb dL_sound_226 (by decide) ?_
                                refine cSWi (As := [.ref (aC.1 0), .int 10]) (rest := []) ⟨hx, hb, hml, hown, hts⟩ (k_about l D ty 10 aC tC pC hC kC sC hst ((inR_d (by decide +kernel)))) (vx_cwSW 2 hts gL_sound_L_tryAbout rfl rfl rfl (by decide +kernel) ⟨Nat.le_of_ble_eq_true rfl, Nat.le_of_ble_eq_true rfl⟩) hK hX hP hD hS hA (pk (bs := [(CLK ty aC tC pC hC kC sC)]) (bsc := [(CLK ty aC tC pC hC kC sC)]) (bsr := []) [0] [] 1 rfl (by decide +kernel) rfl rfl) rfl hl.1 rfl (Nat.le_of_ble_eq_true rfl) dL_sound_228 ⟨Nat.le_of_ble_eq_true rfl, Nat.le_of_ble_eq_true rfl⟩ (fun r_92 u_91 h_93 H locs hP hD hS => ?_)
                                have h_r_92 : r_92 = pC.1 11 := h_93.trans (tell_10 _)
                                subst h_r_92
                                have hP : va_P D vwCl (fl [(CLK ty aC tC pC hC kC sC)]) H := hP
                                have hD : va_D A (fl [(CLK ty aC tC pC hC kC sC)]) := hD
                                refine lv_aload_n hx hb dL_sound_231 rfl (lv_at hl 7 rfl) ?_
                                refine lv_bipush (v := 11) hx hb dL_sound_232 (by decide) ?_
                                refine cSWi (As := [.ref (aC.1 0), .int 11]) (rest := [.int (pC.1 11)]) ⟨hx, hb, hml, hown, hts⟩ (k_about l D ty 11 aC tC pC hC kC sC hst ((inR_d (by decide +kernel)))) (vx_cwSW 2 hts gL_sound_L_tryAbout rfl rfl rfl (by decide +kernel) ⟨Nat.le_of_ble_eq_true rfl, Nat.le_of_ble_eq_true rfl⟩) hK hX hP hD hS hA (pk (bs := [(CLK ty aC tC pC hC kC sC)]) (bsc := [(CLK ty aC tC pC hC kC sC)]) (bsr := []) [0] [] 1 rfl (by decide +kernel) rfl rfl) rfl hl.1 rfl (Nat.le_of_ble_eq_true rfl) dL_sound_234 ⟨Nat.le_of_ble_eq_true rfl, Nat.le_of_ble_eq_true rfl⟩ (fun r_95 u_94 h_96 H locs hP hD hS => ?_)
                                have h_r_95 : r_95 = pC.1 8 := h_96.trans (tell_11 _)
                                subst h_r_95
                                have hP : va_P D vwCl (fl [(CLK ty aC tC pC hC kC sC)]) H := hP
                                have hD : va_D A (fl [(CLK ty aC tC pC hC kC sC)]) := hD
                                refine lv_icmp_gt (tgt := 261) hx hb dL_sound_237 (by decide) (fun c_97 => ?_) (fun c_97 => ?_)
                                · first | exact absurd c_97 (SG_rowt hG) | exact absurd (SG_rowt hG) c_97
                                · skip
                                  have hJ257_97 : ∀ (H : Heap) (locs : List Loc), va_P D vwCl (fl [(CLK ty aC tC pC hC kC sC)]) H → va_D A (fl [(CLK ty aC tC pC hC kC sC)]) → va_S A s.heap H locs → ∀ ls : Array Slot, lv_has ls 10 [(8, .int 4), (7, .int ((((0 + (pC.1 29)) + (pC.1 32)) + (pC.1 35)) + (pC.1 38))), (6, .int ((((0 + (bz (pC.1 28))) + (bz (pC.1 31))) + (bz (pC.1 34))) + (bz (pC.1 37)))), (4, .long ((((Int32.toInt64 (pC.1 12)) + (Int32.toInt64 (pC.1 13))) + (Int32.toInt64 (pC.1 14))) + (Int32.toInt64 (pC.1 15)))), (3, .int (pdom pC.1)), (2, .int (pC.1 7)), (1, .int (pC.1 6)), (0, .ref (aC.1 0))] → W p l e ({ frames := 9, cells := 88, slots := 528, locals := 149 } : Room) s m args below meth c H locs 33 198 Qg (F0 m 257 ls []) := by
                                    intro H locs hP hD hS ls hl
                                    refine lv_iconst (v := 1) hx hb dL_sound_257 (by decide) ?_
                                    refine lv_goto (tgt := 262) hx hb dL_sound_258 (by decide) ?_
                                    refine lv_istore (lv' := [(8, .int 1), (7, .int ((((0 + (pC.1 29)) + (pC.1 32)) + (pC.1 35)) + (pC.1 38))), (6, .int ((((0 + (bz (pC.1 28))) + (bz (pC.1 31))) + (bz (pC.1 34))) + (bz (pC.1 37)))), (4, .long ((((Int32.toInt64 (pC.1 12)) + (Int32.toInt64 (pC.1 13))) + (Int32.toInt64 (pC.1 14))) + (Int32.toInt64 (pC.1 15)))), (3, .int (pdom pC.1)), (2, .int (pC.1 7)), (1, .int (pC.1 6)), (0, .ref (aC.1 0))]) hx hb dL_sound_262 hl (by decide) rfl (fun ls hl => ?_)
                                    refine lv_iconst (v := 0) hx hb dL_sound_264 (by decide) ?_
                                    refine lv_istore (lv' := [(9, .int 0), (8, .int 1), (7, .int ((((0 + (pC.1 29)) + (pC.1 32)) + (pC.1 35)) + (pC.1 38))), (6, .int ((((0 + (bz (pC.1 28))) + (bz (pC.1 31))) + (bz (pC.1 34))) + (bz (pC.1 37)))), (4, .long ((((Int32.toInt64 (pC.1 12)) + (Int32.toInt64 (pC.1 13))) + (Int32.toInt64 (pC.1 14))) + (Int32.toInt64 (pC.1 15)))), (3, .int (pdom pC.1)), (2, .int (pC.1 7)), (1, .int (pC.1 6)), (0, .ref (aC.1 0))]) hx hb dL_sound_265 hl (by decide) rfl (fun ls hl => ?_)
                                    refine lv_iload hx hb dL_sound_267 (lv_at hl 0 rfl) ?_
                                    refine lv_bipush (v := 8) hx hb dL_sound_269 (by decide) ?_
                                    refine lv_icmp_ge (tgt := 306) hx hb dL_sound_271 (by decide) (fun c_99 => ?_) (fun c_99 => ?_)
                                    · exact absurd c_99 (by decide)
                                    · skip
                                      refine lv_iload hx hb dL_sound_274 (lv_at hl 1 rfl) ?_
                                      refine lv_if_eq (tgt := 306) hx hb dL_sound_276 (by decide) (fun c_100 => ?_) (fun c_100 => ?_)
                                      · exact absurd c_100 (by decide)
                                      · skip
                                        refine lv_iload_n hx hb dL_sound_279 rfl (lv_at hl 5 rfl) ?_
                                        refine lv_iconst (v := 3) hx hb dL_sound_280 (by decide) ?_
                                        refine lv_icmp_ne (tgt := 306) hx hb dL_sound_281 (by decide) (fun c_101 => ?_) (fun c_101 => ?_)
                                        · skip
                                          refine lv_iconst (v := 0) hx hb dL_sound_306 (by decide) ?_
                                          refine lv_istore (lv' := [(9, .int 0), (8, .int 1), (7, .int ((((0 + (pC.1 29)) + (pC.1 32)) + (pC.1 35)) + (pC.1 38))), (6, .int ((((0 + (bz (pC.1 28))) + (bz (pC.1 31))) + (bz (pC.1 34))) + (bz (pC.1 37)))), (4, .long ((((Int32.toInt64 (pC.1 12)) + (Int32.toInt64 (pC.1 13))) + (Int32.toInt64 (pC.1 14))) + (Int32.toInt64 (pC.1 15)))), (3, .int (pdom pC.1)), (2, .int (pC.1 7)), (1, .int (pC.1 6)), (0, .ref (aC.1 0))]) hx hb dL_sound_307 hl (by decide) rfl (fun ls hl => ?_)
                                          refine lv_iload hx hb dL_sound_309 (lv_at hl 0 rfl) ?_
                                          refine lv_aload_n hx hb dL_sound_311 rfl (lv_at hl 8 rfl) ?_
                                          refine lv_bipush (v := 10) hx hb dL_sound_312 (by decide) ?_
                                          refine cSWi (As := [.ref (aC.1 0), .int 10]) (rest := [.int 0]) ⟨hx, hb, hml, hown, hts⟩ (k_about l D ty 10 aC tC pC hC kC sC hst ((inR_d (by decide +kernel)))) (vx_cwSW 2 hts gL_sound_L_tryAbout rfl rfl rfl (by decide +kernel) ⟨Nat.le_of_ble_eq_true rfl, Nat.le_of_ble_eq_true rfl⟩) hK hX hP hD hS hA (pk (bs := [(CLK ty aC tC pC hC kC sC)]) (bsc := [(CLK ty aC tC pC hC kC sC)]) (bsr := []) [0] [] 1 rfl (by decide +kernel) rfl rfl) rfl hl.1 rfl (Nat.le_of_ble_eq_true rfl) dL_sound_314 ⟨Nat.le_of_ble_eq_true rfl, Nat.le_of_ble_eq_true rfl⟩ (fun r_103 u_102 h_104 H locs hP hD hS => ?_)
                                          have h_r_103 : r_103 = pC.1 11 := h_104.trans (tell_10 _)
                                          subst h_r_103
                                          have hP : va_P D vwCl (fl [(CLK ty aC tC pC hC kC sC)]) H := hP
                                          have hD : va_D A (fl [(CLK ty aC tC pC hC kC sC)]) := hD
                                          refine lv_icmp_ge (tgt := 380) hx hb dL_sound_317 (by decide) (fun c_105 => ?_) (fun c_105 => ?_)
                                          · skip
                                            refine lv_iload hx hb dL_sound_380 (lv_at hl 1 rfl) ?_
                                            refine lv_if_eq (tgt := 437) hx hb dL_sound_382 (by decide) (fun c_106 => ?_) (fun c_106 => ?_)
                                            · exact absurd c_106 (by decide)
                                            · skip
                                              refine lv_iload_n hx hb dL_sound_385 rfl (lv_at hl 5 rfl) ?_
                                              refine lv_iconst (v := 3) hx hb dL_sound_386 (by decide) ?_
                                              refine lv_icmp_ne (tgt := 433) hx hb dL_sound_387 (by decide) (fun c_107 => ?_) (fun c_107 => ?_)
                                              · skip
                                                refine lv_iconst (v := 1) hx hb dL_sound_433 (by decide) ?_
                                                refine lv_goto (tgt := 438) hx hb dL_sound_434 (by decide) ?_
                                                subst hQg
                                                have hP : va_P D vwCl (fl [(CLK ty aC tC pC hC kC sC)]) H := hP
                                                have hD : va_D A (fl [(CLK ty aC tC pC hC kC sC)]) := hD
                                                exact end_z (bs' := (fun (_ : Unit) => [(CLK ty aC tC pC hC kC sC)])) () hx hb hr hlocks rfl hP hD hS rfl (Nat.le_of_ble_eq_true rfl) (Nat.le_of_ble_eq_true rfl) dL_sound_438
                                              · first | exact absurd c_107 c_101 | exact absurd c_101 c_107
                                          · skip
                                            refine lv_iload hx hb dL_sound_320 (lv_at hl 1 rfl) ?_
                                            refine lv_if_eq (tgt := 380) hx hb dL_sound_322 (by decide) (fun c_108 => ?_) (fun c_108 => ?_)
                                            · exact absurd c_108 (by decide)
                                            · skip
                                              refine lv_aload_n hx hb dL_sound_325 rfl (lv_at hl 8 rfl) ?_
                                              refine lv_iload hx hb dL_sound_326 (lv_at hl 0 rfl) ?_
                                              refine lv_iconst (v := 0) hx hb dL_sound_328 (by decide) ?_
                                              refine cSWi (As := [.ref (aC.1 0), .int 0, .int 0]) (rest := []) ⟨hx, hb, hml, hown, hts⟩ (k_row l D ty 0 0 aC tC pC hC kC sC hst ((SG_Rw hG).2) ((inI_row (j := 0) (by decide) c_105)) ((inR_d (by decide +kernel)))) (vx_cwSW 3 hts gL_sound_L_tryRow rfl rfl rfl (by decide +kernel) ⟨Nat.le_of_ble_eq_true rfl, Nat.le_of_ble_eq_true rfl⟩) hK hX hP hD hS hA (pk (bs := [(CLK ty aC tC pC hC kC sC)]) (bsc := [(CLK ty aC tC pC hC kC sC)]) (bsr := []) [0] [] 1 rfl (by decide +kernel) rfl rfl) rfl hl.1 rfl (Nat.le_of_ble_eq_true rfl) dL_sound_329 ⟨Nat.le_of_ble_eq_true rfl, Nat.le_of_ble_eq_true rfl⟩ (fun r_110 u_109 h_111 H locs hP hD hS => ?_)
                                              have h_r_110 : r_110 = pC.2.2.2 0 0 := h_111.trans (tr_0 _ 0)
                                              subst h_r_110
                                              have hP : va_P D vwCl (fl [(CLK ty aC tC pC hC kC sC)]) H := hP
                                              have hD : va_D A (fl [(CLK ty aC tC pC hC kC sC)]) := hD
                                              refine lv_if_lt (tgt := 371) hx hb dL_sound_332 (by decide) (fun c_112 => ?_) (fun c_112 => ?_)
                                              · first | exact absurd c_112 ((SG_rows hG (j := 0) (by decide) c_105).1.1) | exact absurd ((SG_rows hG (j := 0) (by decide) c_105).1.1) c_112
                                              · skip
                                                refine lv_aload_n hx hb dL_sound_335 rfl (lv_at hl 8 rfl) ?_
                                                refine lv_iload hx hb dL_sound_336 (lv_at hl 0 rfl) ?_
                                                refine lv_iconst (v := 0) hx hb dL_sound_338 (by decide) ?_
                                                refine cSWi (As := [.ref (aC.1 0), .int 0, .int 0]) (rest := []) ⟨hx, hb, hml, hown, hts⟩ (k_row l D ty 0 0 aC tC pC hC kC sC hst ((SG_Rw hG).2) ((inI_row (j := 0) (by decide) c_105)) ((inR_d (by decide +kernel)))) (vx_cwSW 3 hts gL_sound_L_tryRow rfl rfl rfl (by decide +kernel) ⟨Nat.le_of_ble_eq_true rfl, Nat.le_of_ble_eq_true rfl⟩) hK hX hP hD hS hA (pk (bs := [(CLK ty aC tC pC hC kC sC)]) (bsc := [(CLK ty aC tC pC hC kC sC)]) (bsr := []) [0] [] 1 rfl (by decide +kernel) rfl rfl) rfl hl.1 rfl (Nat.le_of_ble_eq_true rfl) dL_sound_339 ⟨Nat.le_of_ble_eq_true rfl, Nat.le_of_ble_eq_true rfl⟩ (fun r_114 u_113 h_115 H locs hP hD hS => ?_)
                                                have h_r_114 : r_114 = pC.2.2.2 0 0 := h_115.trans (tr_0 _ 0)
                                                subst h_r_114
                                                have hP : va_P D vwCl (fl [(CLK ty aC tC pC hC kC sC)]) H := hP
                                                have hD : va_D A (fl [(CLK ty aC tC pC hC kC sC)]) := hD
                                                refine lv_iconst (v := 3) hx hb dL_sound_342 (by decide) ?_
                                                refine lv_icmp_ge (tgt := 371) hx hb dL_sound_343 (by decide) (fun c_116 => ?_) (fun c_116 => ?_)
                                                · first | exact absurd c_116 ((SG_rows hG (j := 0) (by decide) c_105).1.2) | exact absurd ((SG_rows hG (j := 0) (by decide) c_105).1.2) c_116
                                                · skip
                                                  refine lv_aload_n hx hb dL_sound_346 rfl (lv_at hl 8 rfl) ?_
                                                  refine lv_iload hx hb dL_sound_347 (lv_at hl 0 rfl) ?_
                                                  refine lv_iconst (v := 2) hx hb dL_sound_349 (by decide) ?_
                                                  refine cSWi (As := [.ref (aC.1 0), .int 0, .int 2]) (rest := []) ⟨hx, hb, hml, hown, hts⟩ (k_row l D ty 0 2 aC tC pC hC kC sC hst ((SG_Rw hG).2) ((inI_row (j := 0) (by decide) c_105)) ((inR_d (by decide +kernel)))) (vx_cwSW 3 hts gL_sound_L_tryRow rfl rfl rfl (by decide +kernel) ⟨Nat.le_of_ble_eq_true rfl, Nat.le_of_ble_eq_true rfl⟩) hK hX hP hD hS hA (pk (bs := [(CLK ty aC tC pC hC kC sC)]) (bsc := [(CLK ty aC tC pC hC kC sC)]) (bsr := []) [0] [] 1 rfl (by decide +kernel) rfl rfl) rfl hl.1 rfl (Nat.le_of_ble_eq_true rfl) dL_sound_350 ⟨Nat.le_of_ble_eq_true rfl, Nat.le_of_ble_eq_true rfl⟩ (fun r_118 u_117 h_119 H locs hP hD hS => ?_)
                                                  have h_r_118 : r_118 = pC.2.2.2 2 0 := h_119.trans (tr_2 _ 0)
                                                  subst h_r_118
                                                  have hP : va_P D vwCl (fl [(CLK ty aC tC pC hC kC sC)]) H := hP
                                                  have hD : va_D A (fl [(CLK ty aC tC pC hC kC sC)]) := hD
                                                  refine lv_if_lt (tgt := 371) hx hb dL_sound_353 (by decide) (fun c_120 => ?_) (fun c_120 => ?_)
                                                  · first | exact absurd c_120 ((SG_rows hG (j := 0) (by decide) c_105).2.1) | exact absurd ((SG_rows hG (j := 0) (by decide) c_105).2.1) c_120
                                                  · skip
                                                    refine lv_aload_n hx hb dL_sound_356 rfl (lv_at hl 8 rfl) ?_
                                                    refine lv_iload hx hb dL_sound_357 (lv_at hl 0 rfl) ?_
                                                    refine lv_iconst (v := 2) hx hb dL_sound_359 (by decide) ?_
                                                    refine cSWi (As := [.ref (aC.1 0), .int 0, .int 2]) (rest := []) ⟨hx, hb, hml, hown, hts⟩ (k_row l D ty 0 2 aC tC pC hC kC sC hst ((SG_Rw hG).2) ((inI_row (j := 0) (by decide) c_105)) ((inR_d (by decide +kernel)))) (vx_cwSW 3 hts gL_sound_L_tryRow rfl rfl rfl (by decide +kernel) ⟨Nat.le_of_ble_eq_true rfl, Nat.le_of_ble_eq_true rfl⟩) hK hX hP hD hS hA (pk (bs := [(CLK ty aC tC pC hC kC sC)]) (bsc := [(CLK ty aC tC pC hC kC sC)]) (bsr := []) [0] [] 1 rfl (by decide +kernel) rfl rfl) rfl hl.1 rfl (Nat.le_of_ble_eq_true rfl) dL_sound_360 ⟨Nat.le_of_ble_eq_true rfl, Nat.le_of_ble_eq_true rfl⟩ (fun r_122 u_121 h_123 H locs hP hD hS => ?_)
                                                    have h_r_122 : r_122 = pC.2.2.2 2 0 := h_123.trans (tr_2 _ 0)
                                                    subst h_r_122
                                                    have hP : va_P D vwCl (fl [(CLK ty aC tC pC hC kC sC)]) H := hP
                                                    have hD : va_D A (fl [(CLK ty aC tC pC hC kC sC)]) := hD
                                                    refine lv_iconst (v := 3) hx hb dL_sound_363 (by decide) ?_
                                                    refine lv_icmp_ge (tgt := 371) hx hb dL_sound_364 (by decide) (fun c_124 => ?_) (fun c_124 => ?_)
                                                    · first | exact absurd c_124 ((SG_rows hG (j := 0) (by decide) c_105).2.2) | exact absurd ((SG_rows hG (j := 0) (by decide) c_105).2.2) c_124
                                                    · skip
                                                      refine lv_iconst (v := 1) hx hb dL_sound_367 (by decide) ?_
                                                      refine lv_goto (tgt := 372) hx hb dL_sound_368 (by decide) ?_
                                                      refine lv_istore (lv' := [(8, .int 1), (9, .int 0), (7, .int ((((0 + (pC.1 29)) + (pC.1 32)) + (pC.1 35)) + (pC.1 38))), (6, .int ((((0 + (bz (pC.1 28))) + (bz (pC.1 31))) + (bz (pC.1 34))) + (bz (pC.1 37)))), (4, .long ((((Int32.toInt64 (pC.1 12)) + (Int32.toInt64 (pC.1 13))) + (Int32.toInt64 (pC.1 14))) + (Int32.toInt64 (pC.1 15)))), (3, .int (pdom pC.1)), (2, .int (pC.1 7)), (1, .int (pC.1 6)), (0, .ref (aC.1 0))]) hx hb dL_sound_372 hl (by decide) rfl (fun ls hl => ?_)
                                                      refine lv_iinc (v := 1) (lv' := [(9, .int 1), (8, .int 1), (7, .int ((((0 + (pC.1 29)) + (pC.1 32)) + (pC.1 35)) + (pC.1 38))), (6, .int ((((0 + (bz (pC.1 28))) + (bz (pC.1 31))) + (bz (pC.1 34))) + (bz (pC.1 37)))), (4, .long ((((Int32.toInt64 (pC.1 12)) + (Int32.toInt64 (pC.1 13))) + (Int32.toInt64 (pC.1 14))) + (Int32.toInt64 (pC.1 15)))), (3, .int (pdom pC.1)), (2, .int (pC.1 7)), (1, .int (pC.1 6)), (0, .ref (aC.1 0))]) hx hb dL_sound_374 hl (k := 1) rfl (by decide) (by decide) rfl (fun ls hl => ?_)
                                                      refine lv_goto (tgt := 309) hx hb dL_sound_377 (by decide) ?_
                                                      refine lv_iload hx hb dL_sound_309 (lv_at hl 0 rfl) ?_
                                                      refine lv_aload_n hx hb dL_sound_311 rfl (lv_at hl 8 rfl) ?_
                                                      refine lv_bipush (v := 10) hx hb dL_sound_312 (by decide) ?_
                                                      refine cSWi (As := [.ref (aC.1 0), .int 10]) (rest := [.int 1]) ⟨hx, hb, hml, hown, hts⟩ (k_about l D ty 10 aC tC pC hC kC sC hst ((inR_d (by decide +kernel)))) (vx_cwSW 2 hts gL_sound_L_tryAbout rfl rfl rfl (by decide +kernel) ⟨Nat.le_of_ble_eq_true rfl, Nat.le_of_ble_eq_true rfl⟩) hK hX hP hD hS hA (pk (bs := [(CLK ty aC tC pC hC kC sC)]) (bsc := [(CLK ty aC tC pC hC kC sC)]) (bsr := []) [0] [] 1 rfl (by decide +kernel) rfl rfl) rfl hl.1 rfl (Nat.le_of_ble_eq_true rfl) dL_sound_314 ⟨Nat.le_of_ble_eq_true rfl, Nat.le_of_ble_eq_true rfl⟩ (fun r_126 u_125 h_127 H locs hP hD hS => ?_)
                                                      have h_r_126 : r_126 = pC.1 11 := h_127.trans (tell_10 _)
                                                      subst h_r_126
                                                      have hP : va_P D vwCl (fl [(CLK ty aC tC pC hC kC sC)]) H := hP
                                                      have hD : va_D A (fl [(CLK ty aC tC pC hC kC sC)]) := hD
                                                      refine lv_icmp_ge (tgt := 380) hx hb dL_sound_317 (by decide) (fun c_128 => ?_) (fun c_128 => ?_)
                                                      · skip
                                                        refine lv_iload hx hb dL_sound_380 (lv_at hl 1 rfl) ?_
                                                        refine lv_if_eq (tgt := 437) hx hb dL_sound_382 (by decide) (fun c_129 => ?_) (fun c_129 => ?_)
                                                        · exact absurd c_129 (by decide)
                                                        · skip
                                                          refine lv_iload_n hx hb dL_sound_385 rfl (lv_at hl 5 rfl) ?_
                                                          refine lv_iconst (v := 3) hx hb dL_sound_386 (by decide) ?_
                                                          refine lv_icmp_ne (tgt := 433) hx hb dL_sound_387 (by decide) (fun c_130 => ?_) (fun c_130 => ?_)
                                                          · skip
                                                            refine lv_iconst (v := 1) hx hb dL_sound_433 (by decide) ?_
                                                            refine lv_goto (tgt := 438) hx hb dL_sound_434 (by decide) ?_
                                                            subst hQg
                                                            have hP : va_P D vwCl (fl [(CLK ty aC tC pC hC kC sC)]) H := hP
                                                            have hD : va_D A (fl [(CLK ty aC tC pC hC kC sC)]) := hD
                                                            exact end_z (bs' := (fun (_ : Unit) => [(CLK ty aC tC pC hC kC sC)])) () hx hb hr hlocks rfl hP hD hS rfl (Nat.le_of_ble_eq_true rfl) (Nat.le_of_ble_eq_true rfl) dL_sound_438
                                                          · first | exact absurd c_130 c_101 | exact absurd c_101 c_130
                                                      · skip
                                                        refine lv_iload hx hb dL_sound_320 (lv_at hl 1 rfl) ?_
                                                        refine lv_if_eq (tgt := 380) hx hb dL_sound_322 (by decide) (fun c_131 => ?_) (fun c_131 => ?_)
                                                        · exact absurd c_131 (by decide)
                                                        · skip
                                                          refine lv_aload_n hx hb dL_sound_325 rfl (lv_at hl 8 rfl) ?_
                                                          refine lv_iload hx hb dL_sound_326 (lv_at hl 0 rfl) ?_
                                                          refine lv_iconst (v := 0) hx hb dL_sound_328 (by decide) ?_
                                                          refine cSWi (As := [.ref (aC.1 0), .int 1, .int 0]) (rest := []) ⟨hx, hb, hml, hown, hts⟩ (k_row l D ty 1 0 aC tC pC hC kC sC hst ((SG_Rw hG).2) ((inI_row (j := 1) (by decide) c_128)) ((inR_d (by decide +kernel)))) (vx_cwSW 3 hts gL_sound_L_tryRow rfl rfl rfl (by decide +kernel) ⟨Nat.le_of_ble_eq_true rfl, Nat.le_of_ble_eq_true rfl⟩) hK hX hP hD hS hA (pk (bs := [(CLK ty aC tC pC hC kC sC)]) (bsc := [(CLK ty aC tC pC hC kC sC)]) (bsr := []) [0] [] 1 rfl (by decide +kernel) rfl rfl) rfl hl.1 rfl (Nat.le_of_ble_eq_true rfl) dL_sound_329 ⟨Nat.le_of_ble_eq_true rfl, Nat.le_of_ble_eq_true rfl⟩ (fun r_133 u_132 h_134 H locs hP hD hS => ?_)
                                                          have h_r_133 : r_133 = pC.2.2.2 0 1 := h_134.trans (tr_0 _ 1)
                                                          subst h_r_133
                                                          have hP : va_P D vwCl (fl [(CLK ty aC tC pC hC kC sC)]) H := hP
                                                          have hD : va_D A (fl [(CLK ty aC tC pC hC kC sC)]) := hD
                                                          refine lv_if_lt (tgt := 371) hx hb dL_sound_332 (by decide) (fun c_135 => ?_) (fun c_135 => ?_)
                                                          · first | exact absurd c_135 ((SG_rows hG (j := 1) (by decide) c_128).1.1) | exact absurd ((SG_rows hG (j := 1) (by decide) c_128).1.1) c_135
                                                          · skip
                                                            refine lv_aload_n hx hb dL_sound_335 rfl (lv_at hl 8 rfl) ?_
                                                            refine lv_iload hx hb dL_sound_336 (lv_at hl 0 rfl) ?_
                                                            refine lv_iconst (v := 0) hx hb dL_sound_338 (by decide) ?_
                                                            refine cSWi (As := [.ref (aC.1 0), .int 1, .int 0]) (rest := []) ⟨hx, hb, hml, hown, hts⟩ (k_row l D ty 1 0 aC tC pC hC kC sC hst ((SG_Rw hG).2) ((inI_row (j := 1) (by decide) c_128)) ((inR_d (by decide +kernel)))) (vx_cwSW 3 hts gL_sound_L_tryRow rfl rfl rfl (by decide +kernel) ⟨Nat.le_of_ble_eq_true rfl, Nat.le_of_ble_eq_true rfl⟩) hK hX hP hD hS hA (pk (bs := [(CLK ty aC tC pC hC kC sC)]) (bsc := [(CLK ty aC tC pC hC kC sC)]) (bsr := []) [0] [] 1 rfl (by decide +kernel) rfl rfl) rfl hl.1 rfl (Nat.le_of_ble_eq_true rfl) dL_sound_339 ⟨Nat.le_of_ble_eq_true rfl, Nat.le_of_ble_eq_true rfl⟩ (fun r_137 u_136 h_138 H locs hP hD hS => ?_)
                                                            have h_r_137 : r_137 = pC.2.2.2 0 1 := h_138.trans (tr_0 _ 1)
                                                            subst h_r_137
                                                            have hP : va_P D vwCl (fl [(CLK ty aC tC pC hC kC sC)]) H := hP
                                                            have hD : va_D A (fl [(CLK ty aC tC pC hC kC sC)]) := hD
                                                            refine lv_iconst (v := 3) hx hb dL_sound_342 (by decide) ?_
                                                            refine lv_icmp_ge (tgt := 371) hx hb dL_sound_343 (by decide) (fun c_139 => ?_) (fun c_139 => ?_)
                                                            · first | exact absurd c_139 ((SG_rows hG (j := 1) (by decide) c_128).1.2) | exact absurd ((SG_rows hG (j := 1) (by decide) c_128).1.2) c_139
                                                            · skip
                                                              refine lv_aload_n hx hb dL_sound_346 rfl (lv_at hl 8 rfl) ?_
                                                              refine lv_iload hx hb dL_sound_347 (lv_at hl 0 rfl) ?_
                                                              refine lv_iconst (v := 2) hx hb dL_sound_349 (by decide) ?_
                                                              refine cSWi (As := [.ref (aC.1 0), .int 1, .int 2]) (rest := []) ⟨hx, hb, hml, hown, hts⟩ (k_row l D ty 1 2 aC tC pC hC kC sC hst ((SG_Rw hG).2) ((inI_row (j := 1) (by decide) c_128)) ((inR_d (by decide +kernel)))) (vx_cwSW 3 hts gL_sound_L_tryRow rfl rfl rfl (by decide +kernel) ⟨Nat.le_of_ble_eq_true rfl, Nat.le_of_ble_eq_true rfl⟩) hK hX hP hD hS hA (pk (bs := [(CLK ty aC tC pC hC kC sC)]) (bsc := [(CLK ty aC tC pC hC kC sC)]) (bsr := []) [0] [] 1 rfl (by decide +kernel) rfl rfl) rfl hl.1 rfl (Nat.le_of_ble_eq_true rfl) dL_sound_350 ⟨Nat.le_of_ble_eq_true rfl, Nat.le_of_ble_eq_true rfl⟩ (fun r_141 u_140 h_142 H locs hP hD hS => ?_)
                                                              have h_r_141 : r_141 = pC.2.2.2 2 1 := h_142.trans (tr_2 _ 1)
                                                              subst h_r_141
                                                              have hP : va_P D vwCl (fl [(CLK ty aC tC pC hC kC sC)]) H := hP
                                                              have hD : va_D A (fl [(CLK ty aC tC pC hC kC sC)]) := hD
                                                              refine lv_if_lt (tgt := 371) hx hb dL_sound_353 (by decide) (fun c_143 => ?_) (fun c_143 => ?_)
                                                              · first | exact absurd c_143 ((SG_rows hG (j := 1) (by decide) c_128).2.1) | exact absurd ((SG_rows hG (j := 1) (by decide) c_128).2.1) c_143
                                                              · skip
                                                                refine lv_aload_n hx hb dL_sound_356 rfl (lv_at hl 8 rfl) ?_
                                                                refine lv_iload hx hb dL_sound_357 (lv_at hl 0 rfl) ?_
                                                                refine lv_iconst (v := 2) hx hb dL_sound_359 (by decide) ?_
                                                                refine cSWi (As := [.ref (aC.1 0), .int 1, .int 2]) (rest := []) ⟨hx, hb, hml, hown, hts⟩ (k_row l D ty 1 2 aC tC pC hC kC sC hst ((SG_Rw hG).2) ((inI_row (j := 1) (by decide) c_128)) ((inR_d (by decide +kernel)))) (vx_cwSW 3 hts gL_sound_L_tryRow rfl rfl rfl (by decide +kernel) ⟨Nat.le_of_ble_eq_true rfl, Nat.le_of_ble_eq_true rfl⟩) hK hX hP hD hS hA (pk (bs := [(CLK ty aC tC pC hC kC sC)]) (bsc := [(CLK ty aC tC pC hC kC sC)]) (bsr := []) [0] [] 1 rfl (by decide +kernel) rfl rfl) rfl hl.1 rfl (Nat.le_of_ble_eq_true rfl) dL_sound_360 ⟨Nat.le_of_ble_eq_true rfl, Nat.le_of_ble_eq_true rfl⟩ (fun r_145 u_144 h_146 H locs hP hD hS => ?_)
                                                                have h_r_145 : r_145 = pC.2.2.2 2 1 := h_146.trans (tr_2 _ 1)
                                                                subst h_r_145
                                                                have hP : va_P D vwCl (fl [(CLK ty aC tC pC hC kC sC)]) H := hP
                                                                have hD : va_D A (fl [(CLK ty aC tC pC hC kC sC)]) := hD
                                                                refine lv_iconst (v := 3) hx hb dL_sound_363 (by decide) ?_
                                                                refine lv_icmp_ge (tgt := 371) hx hb dL_sound_364 (by decide) (fun c_147 => ?_) (fun c_147 => ?_)
                                                                · first | exact absurd c_147 ((SG_rows hG (j := 1) (by decide) c_128).2.2) | exact absurd ((SG_rows hG (j := 1) (by decide) c_128).2.2) c_147
                                                                · skip
                                                                  refine lv_iconst (v := 1) hx hb dL_sound_367 (by decide) ?_
                                                                  refine lv_goto (tgt := 372) hx hb dL_sound_368 (by decide) ?_
                                                                  refine lv_istore (lv' := [(8, .int 1), (9, .int 1), (7, .int ((((0 + (pC.1 29)) + (pC.1 32)) + (pC.1 35)) + (pC.1 38))), (6, .int ((((0 + (bz (pC.1 28))) + (bz (pC.1 31))) + (bz (pC.1 34))) + (bz (pC.1 37)))), (4, .long ((((Int32.toInt64 (pC.1 12)) + (Int32.toInt64 (pC.1 13))) + (Int32.toInt64 (pC.1 14))) + (Int32.toInt64 (pC.1 15)))), (3, .int (pdom pC.1)), (2, .int (pC.1 7)), (1, .int (pC.1 6)), (0, .ref (aC.1 0))]) hx hb dL_sound_372 hl (by decide) rfl (fun ls hl => ?_)
                                                                  refine lv_iinc (v := 2) (lv' := [(9, .int 2), (8, .int 1), (7, .int ((((0 + (pC.1 29)) + (pC.1 32)) + (pC.1 35)) + (pC.1 38))), (6, .int ((((0 + (bz (pC.1 28))) + (bz (pC.1 31))) + (bz (pC.1 34))) + (bz (pC.1 37)))), (4, .long ((((Int32.toInt64 (pC.1 12)) + (Int32.toInt64 (pC.1 13))) + (Int32.toInt64 (pC.1 14))) + (Int32.toInt64 (pC.1 15)))), (3, .int (pdom pC.1)), (2, .int (pC.1 7)), (1, .int (pC.1 6)), (0, .ref (aC.1 0))]) hx hb dL_sound_374 hl (k := 1) rfl (by decide) (by decide) rfl (fun ls hl => ?_)
                                                                  refine lv_goto (tgt := 309) hx hb dL_sound_377 (by decide) ?_
                                                                  refine lv_iload hx hb dL_sound_309 (lv_at hl 0 rfl) ?_
                                                                  refine lv_aload_n hx hb dL_sound_311 rfl (lv_at hl 8 rfl) ?_
                                                                  refine lv_bipush (v := 10) hx hb dL_sound_312 (by decide) ?_
                                                                  refine cSWi (As := [.ref (aC.1 0), .int 10]) (rest := [.int 2]) ⟨hx, hb, hml, hown, hts⟩ (k_about l D ty 10 aC tC pC hC kC sC hst ((inR_d (by decide +kernel)))) (vx_cwSW 2 hts gL_sound_L_tryAbout rfl rfl rfl (by decide +kernel) ⟨Nat.le_of_ble_eq_true rfl, Nat.le_of_ble_eq_true rfl⟩) hK hX hP hD hS hA (pk (bs := [(CLK ty aC tC pC hC kC sC)]) (bsc := [(CLK ty aC tC pC hC kC sC)]) (bsr := []) [0] [] 1 rfl (by decide +kernel) rfl rfl) rfl hl.1 rfl (Nat.le_of_ble_eq_true rfl) dL_sound_314 ⟨Nat.le_of_ble_eq_true rfl, Nat.le_of_ble_eq_true rfl⟩ (fun r_149 u_148 h_150 H locs hP hD hS => ?_)
                                                                  have h_r_149 : r_149 = pC.1 11 := h_150.trans (tell_10 _)
                                                                  subst h_r_149
                                                                  have hP : va_P D vwCl (fl [(CLK ty aC tC pC hC kC sC)]) H := hP
                                                                  have hD : va_D A (fl [(CLK ty aC tC pC hC kC sC)]) := hD
                                                                  refine lv_icmp_ge (tgt := 380) hx hb dL_sound_317 (by decide) (fun c_151 => ?_) (fun c_151 => ?_)
                                                                  · skip
                                                                    refine lv_iload hx hb dL_sound_380 (lv_at hl 1 rfl) ?_
                                                                    refine lv_if_eq (tgt := 437) hx hb dL_sound_382 (by decide) (fun c_152 => ?_) (fun c_152 => ?_)
                                                                    · exact absurd c_152 (by decide)
                                                                    · skip
                                                                      refine lv_iload_n hx hb dL_sound_385 rfl (lv_at hl 5 rfl) ?_
                                                                      refine lv_iconst (v := 3) hx hb dL_sound_386 (by decide) ?_
                                                                      refine lv_icmp_ne (tgt := 433) hx hb dL_sound_387 (by decide) (fun c_153 => ?_) (fun c_153 => ?_)
                                                                      · skip
                                                                        refine lv_iconst (v := 1) hx hb dL_sound_433 (by decide) ?_
                                                                        refine lv_goto (tgt := 438) hx hb dL_sound_434 (by decide) ?_
                                                                        subst hQg
                                                                        have hP : va_P D vwCl (fl [(CLK ty aC tC pC hC kC sC)]) H := hP
                                                                        have hD : va_D A (fl [(CLK ty aC tC pC hC kC sC)]) := hD
                                                                        exact end_z (bs' := (fun (_ : Unit) => [(CLK ty aC tC pC hC kC sC)])) () hx hb hr hlocks rfl hP hD hS rfl (Nat.le_of_ble_eq_true rfl) (Nat.le_of_ble_eq_true rfl) dL_sound_438
                                                                      · first | exact absurd c_153 c_101 | exact absurd c_101 c_153
                                                                  · skip
                                                                    refine lv_iload hx hb dL_sound_320 (lv_at hl 1 rfl) ?_
                                                                    refine lv_if_eq (tgt := 380) hx hb dL_sound_322 (by decide) (fun c_154 => ?_) (fun c_154 => ?_)
                                                                    · exact absurd c_154 (by decide)
                                                                    · skip
                                                                      refine lv_aload_n hx hb dL_sound_325 rfl (lv_at hl 8 rfl) ?_
                                                                      refine lv_iload hx hb dL_sound_326 (lv_at hl 0 rfl) ?_
                                                                      refine lv_iconst (v := 0) hx hb dL_sound_328 (by decide) ?_
                                                                      refine cSWi (As := [.ref (aC.1 0), .int 2, .int 0]) (rest := []) ⟨hx, hb, hml, hown, hts⟩ (k_row l D ty 2 0 aC tC pC hC kC sC hst ((SG_Rw hG).2) ((inI_row (j := 2) (by decide) c_151)) ((inR_d (by decide +kernel)))) (vx_cwSW 3 hts gL_sound_L_tryRow rfl rfl rfl (by decide +kernel) ⟨Nat.le_of_ble_eq_true rfl, Nat.le_of_ble_eq_true rfl⟩) hK hX hP hD hS hA (pk (bs := [(CLK ty aC tC pC hC kC sC)]) (bsc := [(CLK ty aC tC pC hC kC sC)]) (bsr := []) [0] [] 1 rfl (by decide +kernel) rfl rfl) rfl hl.1 rfl (Nat.le_of_ble_eq_true rfl) dL_sound_329 ⟨Nat.le_of_ble_eq_true rfl, Nat.le_of_ble_eq_true rfl⟩ (fun r_156 u_155 h_157 H locs hP hD hS => ?_)
                                                                      have h_r_156 : r_156 = pC.2.2.2 0 2 := h_157.trans (tr_0 _ 2)
                                                                      subst h_r_156
                                                                      have hP : va_P D vwCl (fl [(CLK ty aC tC pC hC kC sC)]) H := hP
                                                                      have hD : va_D A (fl [(CLK ty aC tC pC hC kC sC)]) := hD
                                                                      refine lv_if_lt (tgt := 371) hx hb dL_sound_332 (by decide) (fun c_158 => ?_) (fun c_158 => ?_)
                                                                      · first | exact absurd c_158 ((SG_rows hG (j := 2) (by decide) c_151).1.1) | exact absurd ((SG_rows hG (j := 2) (by decide) c_151).1.1) c_158
                                                                      · skip
                                                                        refine lv_aload_n hx hb dL_sound_335 rfl (lv_at hl 8 rfl) ?_
                                                                        refine lv_iload hx hb dL_sound_336 (lv_at hl 0 rfl) ?_
                                                                        refine lv_iconst (v := 0) hx hb dL_sound_338 (by decide) ?_
                                                                        refine cSWi (As := [.ref (aC.1 0), .int 2, .int 0]) (rest := []) ⟨hx, hb, hml, hown, hts⟩ (k_row l D ty 2 0 aC tC pC hC kC sC hst ((SG_Rw hG).2) ((inI_row (j := 2) (by decide) c_151)) ((inR_d (by decide +kernel)))) (vx_cwSW 3 hts gL_sound_L_tryRow rfl rfl rfl (by decide +kernel) ⟨Nat.le_of_ble_eq_true rfl, Nat.le_of_ble_eq_true rfl⟩) hK hX hP hD hS hA (pk (bs := [(CLK ty aC tC pC hC kC sC)]) (bsc := [(CLK ty aC tC pC hC kC sC)]) (bsr := []) [0] [] 1 rfl (by decide +kernel) rfl rfl) rfl hl.1 rfl (Nat.le_of_ble_eq_true rfl) dL_sound_339 ⟨Nat.le_of_ble_eq_true rfl, Nat.le_of_ble_eq_true rfl⟩ (fun r_160 u_159 h_161 H locs hP hD hS => ?_)
                                                                        have h_r_160 : r_160 = pC.2.2.2 0 2 := h_161.trans (tr_0 _ 2)
                                                                        subst h_r_160
                                                                        have hP : va_P D vwCl (fl [(CLK ty aC tC pC hC kC sC)]) H := hP
                                                                        have hD : va_D A (fl [(CLK ty aC tC pC hC kC sC)]) := hD
                                                                        refine lv_iconst (v := 3) hx hb dL_sound_342 (by decide) ?_
                                                                        refine lv_icmp_ge (tgt := 371) hx hb dL_sound_343 (by decide) (fun c_162 => ?_) (fun c_162 => ?_)
                                                                        · first | exact absurd c_162 ((SG_rows hG (j := 2) (by decide) c_151).1.2) | exact absurd ((SG_rows hG (j := 2) (by decide) c_151).1.2) c_162
                                                                        · skip
                                                                          refine lv_aload_n hx hb dL_sound_346 rfl (lv_at hl 8 rfl) ?_
                                                                          refine lv_iload hx hb dL_sound_347 (lv_at hl 0 rfl) ?_
                                                                          refine lv_iconst (v := 2) hx hb dL_sound_349 (by decide) ?_
                                                                          refine cSWi (As := [.ref (aC.1 0), .int 2, .int 2]) (rest := []) ⟨hx, hb, hml, hown, hts⟩ (k_row l D ty 2 2 aC tC pC hC kC sC hst ((SG_Rw hG).2) ((inI_row (j := 2) (by decide) c_151)) ((inR_d (by decide +kernel)))) (vx_cwSW 3 hts gL_sound_L_tryRow rfl rfl rfl (by decide +kernel) ⟨Nat.le_of_ble_eq_true rfl, Nat.le_of_ble_eq_true rfl⟩) hK hX hP hD hS hA (pk (bs := [(CLK ty aC tC pC hC kC sC)]) (bsc := [(CLK ty aC tC pC hC kC sC)]) (bsr := []) [0] [] 1 rfl (by decide +kernel) rfl rfl) rfl hl.1 rfl (Nat.le_of_ble_eq_true rfl) dL_sound_350 ⟨Nat.le_of_ble_eq_true rfl, Nat.le_of_ble_eq_true rfl⟩ (fun r_164 u_163 h_165 H locs hP hD hS => ?_)
                                                                          have h_r_164 : r_164 = pC.2.2.2 2 2 := h_165.trans (tr_2 _ 2)
                                                                          subst h_r_164
                                                                          have hP : va_P D vwCl (fl [(CLK ty aC tC pC hC kC sC)]) H := hP
                                                                          have hD : va_D A (fl [(CLK ty aC tC pC hC kC sC)]) := hD
                                                                          refine lv_if_lt (tgt := 371) hx hb dL_sound_353 (by decide) (fun c_166 => ?_) (fun c_166 => ?_)
                                                                          · first | exact absurd c_166 ((SG_rows hG (j := 2) (by decide) c_151).2.1) | exact absurd ((SG_rows hG (j := 2) (by decide) c_151).2.1) c_166
                                                                          · skip
                                                                            refine lv_aload_n hx hb dL_sound_356 rfl (lv_at hl 8 rfl) ?_
                                                                            refine lv_iload hx hb dL_sound_357 (lv_at hl 0 rfl) ?_
                                                                            refine lv_iconst (v := 2) hx hb dL_sound_359 (by decide) ?_
                                                                            refine cSWi (As := [.ref (aC.1 0), .int 2, .int 2]) (rest := []) ⟨hx, hb, hml, hown, hts⟩ (k_row l D ty 2 2 aC tC pC hC kC sC hst ((SG_Rw hG).2) ((inI_row (j := 2) (by decide) c_151)) ((inR_d (by decide +kernel)))) (vx_cwSW 3 hts gL_sound_L_tryRow rfl rfl rfl (by decide +kernel) ⟨Nat.le_of_ble_eq_true rfl, Nat.le_of_ble_eq_true rfl⟩) hK hX hP hD hS hA (pk (bs := [(CLK ty aC tC pC hC kC sC)]) (bsc := [(CLK ty aC tC pC hC kC sC)]) (bsr := []) [0] [] 1 rfl (by decide +kernel) rfl rfl) rfl hl.1 rfl (Nat.le_of_ble_eq_true rfl) dL_sound_360 ⟨Nat.le_of_ble_eq_true rfl, Nat.le_of_ble_eq_true rfl⟩ (fun r_168 u_167 h_169 H locs hP hD hS => ?_)
                                                                            have h_r_168 : r_168 = pC.2.2.2 2 2 := h_169.trans (tr_2 _ 2)
                                                                            subst h_r_168
                                                                            have hP : va_P D vwCl (fl [(CLK ty aC tC pC hC kC sC)]) H := hP
                                                                            have hD : va_D A (fl [(CLK ty aC tC pC hC kC sC)]) := hD
                                                                            refine lv_iconst (v := 3) hx hb dL_sound_363 (by decide) ?_
                                                                            refine lv_icmp_ge (tgt := 371) hx hb dL_sound_364 (by decide) (fun c_170 => ?_) (fun c_170 => ?_)
                                                                            · first | exact absurd c_170 ((SG_rows hG (j := 2) (by decide) c_151).2.2) | exact absurd ((SG_rows hG (j := 2) (by decide) c_151).2.2) c_170
                                                                            · skip
                                                                              refine lv_iconst (v := 1) hx hb dL_sound_367 (by decide) ?_
                                                                              refine lv_goto (tgt := 372) hx hb dL_sound_368 (by decide) ?_
                                                                              refine lv_istore (lv' := [(8, .int 1), (9, .int 2), (7, .int ((((0 + (pC.1 29)) + (pC.1 32)) + (pC.1 35)) + (pC.1 38))), (6, .int ((((0 + (bz (pC.1 28))) + (bz (pC.1 31))) + (bz (pC.1 34))) + (bz (pC.1 37)))), (4, .long ((((Int32.toInt64 (pC.1 12)) + (Int32.toInt64 (pC.1 13))) + (Int32.toInt64 (pC.1 14))) + (Int32.toInt64 (pC.1 15)))), (3, .int (pdom pC.1)), (2, .int (pC.1 7)), (1, .int (pC.1 6)), (0, .ref (aC.1 0))]) hx hb dL_sound_372 hl (by decide) rfl (fun ls hl => ?_)
                                                                              refine lv_iinc (v := 3) (lv' := [(9, .int 3), (8, .int 1), (7, .int ((((0 + (pC.1 29)) + (pC.1 32)) + (pC.1 35)) + (pC.1 38))), (6, .int ((((0 + (bz (pC.1 28))) + (bz (pC.1 31))) + (bz (pC.1 34))) + (bz (pC.1 37)))), (4, .long ((((Int32.toInt64 (pC.1 12)) + (Int32.toInt64 (pC.1 13))) + (Int32.toInt64 (pC.1 14))) + (Int32.toInt64 (pC.1 15)))), (3, .int (pdom pC.1)), (2, .int (pC.1 7)), (1, .int (pC.1 6)), (0, .ref (aC.1 0))]) hx hb dL_sound_374 hl (k := 1) rfl (by decide) (by decide) rfl (fun ls hl => ?_)
                                                                              refine lv_goto (tgt := 309) hx hb dL_sound_377 (by decide) ?_
                                                                              refine lv_iload hx hb dL_sound_309 (lv_at hl 0 rfl) ?_
                                                                              refine lv_aload_n hx hb dL_sound_311 rfl (lv_at hl 8 rfl) ?_
                                                                              refine lv_bipush (v := 10) hx hb dL_sound_312 (by decide) ?_
                                                                              refine cSWi (As := [.ref (aC.1 0), .int 10]) (rest := [.int 3]) ⟨hx, hb, hml, hown, hts⟩ (k_about l D ty 10 aC tC pC hC kC sC hst ((inR_d (by decide +kernel)))) (vx_cwSW 2 hts gL_sound_L_tryAbout rfl rfl rfl (by decide +kernel) ⟨Nat.le_of_ble_eq_true rfl, Nat.le_of_ble_eq_true rfl⟩) hK hX hP hD hS hA (pk (bs := [(CLK ty aC tC pC hC kC sC)]) (bsc := [(CLK ty aC tC pC hC kC sC)]) (bsr := []) [0] [] 1 rfl (by decide +kernel) rfl rfl) rfl hl.1 rfl (Nat.le_of_ble_eq_true rfl) dL_sound_314 ⟨Nat.le_of_ble_eq_true rfl, Nat.le_of_ble_eq_true rfl⟩ (fun r_172 u_171 h_173 H locs hP hD hS => ?_)
                                                                              have h_r_172 : r_172 = pC.1 11 := h_173.trans (tell_10 _)
                                                                              subst h_r_172
                                                                              have hP : va_P D vwCl (fl [(CLK ty aC tC pC hC kC sC)]) H := hP
                                                                              have hD : va_D A (fl [(CLK ty aC tC pC hC kC sC)]) := hD
                                                                              refine lv_icmp_ge (tgt := 380) hx hb dL_sound_317 (by decide) (fun c_174 => ?_) (fun c_174 => ?_)
                                                                              · skip
                                                                                refine lv_iload hx hb dL_sound_380 (lv_at hl 1 rfl) ?_
                                                                                refine lv_if_eq (tgt := 437) hx hb dL_sound_382 (by decide) (fun c_175 => ?_) (fun c_175 => ?_)
                                                                                · exact absurd c_175 (by decide)
                                                                                · skip
                                                                                  refine lv_iload_n hx hb dL_sound_385 rfl (lv_at hl 5 rfl) ?_
                                                                                  refine lv_iconst (v := 3) hx hb dL_sound_386 (by decide) ?_
                                                                                  refine lv_icmp_ne (tgt := 433) hx hb dL_sound_387 (by decide) (fun c_176 => ?_) (fun c_176 => ?_)
                                                                                  · skip
                                                                                    refine lv_iconst (v := 1) hx hb dL_sound_433 (by decide) ?_
                                                                                    refine lv_goto (tgt := 438) hx hb dL_sound_434 (by decide) ?_
                                                                                    subst hQg
                                                                                    have hP : va_P D vwCl (fl [(CLK ty aC tC pC hC kC sC)]) H := hP
                                                                                    have hD : va_D A (fl [(CLK ty aC tC pC hC kC sC)]) := hD
                                                                                    exact end_z (bs' := (fun (_ : Unit) => [(CLK ty aC tC pC hC kC sC)])) () hx hb hr hlocks rfl hP hD hS rfl (Nat.le_of_ble_eq_true rfl) (Nat.le_of_ble_eq_true rfl) dL_sound_438
                                                                                  · first | exact absurd c_176 c_101 | exact absurd c_101 c_176
                                                                              · skip
                                                                                refine lv_iload hx hb dL_sound_320 (lv_at hl 1 rfl) ?_
                                                                                refine lv_if_eq (tgt := 380) hx hb dL_sound_322 (by decide) (fun c_177 => ?_) (fun c_177 => ?_)
                                                                                · exact absurd c_177 (by decide)
                                                                                · skip
                                                                                  refine lv_aload_n hx hb dL_sound_325 rfl (lv_at hl 8 rfl) ?_
                                                                                  refine lv_iload hx hb dL_sound_326 (lv_at hl 0 rfl) ?_
                                                                                  refine lv_iconst (v := 0) hx hb dL_sound_328 (by decide) ?_
                                                                                  refine cSWi (As := [.ref (aC.1 0), .int 3, .int 0]) (rest := []) ⟨hx, hb, hml, hown, hts⟩ (k_row l D ty 3 0 aC tC pC hC kC sC hst ((SG_Rw hG).2) ((inI_row (j := 3) (by decide) c_174)) ((inR_d (by decide +kernel)))) (vx_cwSW 3 hts gL_sound_L_tryRow rfl rfl rfl (by decide +kernel) ⟨Nat.le_of_ble_eq_true rfl, Nat.le_of_ble_eq_true rfl⟩) hK hX hP hD hS hA (pk (bs := [(CLK ty aC tC pC hC kC sC)]) (bsc := [(CLK ty aC tC pC hC kC sC)]) (bsr := []) [0] [] 1 rfl (by decide +kernel) rfl rfl) rfl hl.1 rfl (Nat.le_of_ble_eq_true rfl) dL_sound_329 ⟨Nat.le_of_ble_eq_true rfl, Nat.le_of_ble_eq_true rfl⟩ (fun r_179 u_178 h_180 H locs hP hD hS => ?_)
                                                                                  have h_r_179 : r_179 = pC.2.2.2 0 3 := h_180.trans (tr_0 _ 3)
                                                                                  subst h_r_179
                                                                                  have hP : va_P D vwCl (fl [(CLK ty aC tC pC hC kC sC)]) H := hP
                                                                                  have hD : va_D A (fl [(CLK ty aC tC pC hC kC sC)]) := hD
                                                                                  refine lv_if_lt (tgt := 371) hx hb dL_sound_332 (by decide) (fun c_181 => ?_) (fun c_181 => ?_)
                                                                                  · first | exact absurd c_181 ((SG_rows hG (j := 3) (by decide) c_174).1.1) | exact absurd ((SG_rows hG (j := 3) (by decide) c_174).1.1) c_181
                                                                                  · skip
                                                                                    refine lv_aload_n hx hb dL_sound_335 rfl (lv_at hl 8 rfl) ?_
                                                                                    refine lv_iload hx hb dL_sound_336 (lv_at hl 0 rfl) ?_
                                                                                    refine lv_iconst (v := 0) hx hb dL_sound_338 (by decide) ?_
                                                                                    refine cSWi (As := [.ref (aC.1 0), .int 3, .int 0]) (rest := []) ⟨hx, hb, hml, hown, hts⟩ (k_row l D ty 3 0 aC tC pC hC kC sC hst ((SG_Rw hG).2) ((inI_row (j := 3) (by decide) c_174)) ((inR_d (by decide +kernel)))) (vx_cwSW 3 hts gL_sound_L_tryRow rfl rfl rfl (by decide +kernel) ⟨Nat.le_of_ble_eq_true rfl, Nat.le_of_ble_eq_true rfl⟩) hK hX hP hD hS hA (pk (bs := [(CLK ty aC tC pC hC kC sC)]) (bsc := [(CLK ty aC tC pC hC kC sC)]) (bsr := []) [0] [] 1 rfl (by decide +kernel) rfl rfl) rfl hl.1 rfl (Nat.le_of_ble_eq_true rfl) dL_sound_339 ⟨Nat.le_of_ble_eq_true rfl, Nat.le_of_ble_eq_true rfl⟩ (fun r_183 u_182 h_184 H locs hP hD hS => ?_)
                                                                                    have h_r_183 : r_183 = pC.2.2.2 0 3 := h_184.trans (tr_0 _ 3)
                                                                                    subst h_r_183
                                                                                    have hP : va_P D vwCl (fl [(CLK ty aC tC pC hC kC sC)]) H := hP
                                                                                    have hD : va_D A (fl [(CLK ty aC tC pC hC kC sC)]) := hD
                                                                                    refine lv_iconst (v := 3) hx hb dL_sound_342 (by decide) ?_
                                                                                    refine lv_icmp_ge (tgt := 371) hx hb dL_sound_343 (by decide) (fun c_185 => ?_) (fun c_185 => ?_)
                                                                                    · first | exact absurd c_185 ((SG_rows hG (j := 3) (by decide) c_174).1.2) | exact absurd ((SG_rows hG (j := 3) (by decide) c_174).1.2) c_185
                                                                                    · skip
                                                                                      refine lv_aload_n hx hb dL_sound_346 rfl (lv_at hl 8 rfl) ?_
                                                                                      refine lv_iload hx hb dL_sound_347 (lv_at hl 0 rfl) ?_
                                                                                      refine lv_iconst (v := 2) hx hb dL_sound_349 (by decide) ?_
                                                                                      refine cSWi (As := [.ref (aC.1 0), .int 3, .int 2]) (rest := []) ⟨hx, hb, hml, hown, hts⟩ (k_row l D ty 3 2 aC tC pC hC kC sC hst ((SG_Rw hG).2) ((inI_row (j := 3) (by decide) c_174)) ((inR_d (by decide +kernel)))) (vx_cwSW 3 hts gL_sound_L_tryRow rfl rfl rfl (by decide +kernel) ⟨Nat.le_of_ble_eq_true rfl, Nat.le_of_ble_eq_true rfl⟩) hK hX hP hD hS hA (pk (bs := [(CLK ty aC tC pC hC kC sC)]) (bsc := [(CLK ty aC tC pC hC kC sC)]) (bsr := []) [0] [] 1 rfl (by decide +kernel) rfl rfl) rfl hl.1 rfl (Nat.le_of_ble_eq_true rfl) dL_sound_350 ⟨Nat.le_of_ble_eq_true rfl, Nat.le_of_ble_eq_true rfl⟩ (fun r_187 u_186 h_188 H locs hP hD hS => ?_)
                                                                                      have h_r_187 : r_187 = pC.2.2.2 2 3 := h_188.trans (tr_2 _ 3)
                                                                                      subst h_r_187
                                                                                      have hP : va_P D vwCl (fl [(CLK ty aC tC pC hC kC sC)]) H := hP
                                                                                      have hD : va_D A (fl [(CLK ty aC tC pC hC kC sC)]) := hD
                                                                                      refine lv_if_lt (tgt := 371) hx hb dL_sound_353 (by decide) (fun c_189 => ?_) (fun c_189 => ?_)
                                                                                      · first | exact absurd c_189 ((SG_rows hG (j := 3) (by decide) c_174).2.1) | exact absurd ((SG_rows hG (j := 3) (by decide) c_174).2.1) c_189
                                                                                      · skip
                                                                                        refine lv_aload_n hx hb dL_sound_356 rfl (lv_at hl 8 rfl) ?_
                                                                                        refine lv_iload hx hb dL_sound_357 (lv_at hl 0 rfl) ?_
                                                                                        refine lv_iconst (v := 2) hx hb dL_sound_359 (by decide) ?_
                                                                                        refine cSWi (As := [.ref (aC.1 0), .int 3, .int 2]) (rest := []) ⟨hx, hb, hml, hown, hts⟩ (k_row l D ty 3 2 aC tC pC hC kC sC hst ((SG_Rw hG).2) ((inI_row (j := 3) (by decide) c_174)) ((inR_d (by decide +kernel)))) (vx_cwSW 3 hts gL_sound_L_tryRow rfl rfl rfl (by decide +kernel) ⟨Nat.le_of_ble_eq_true rfl, Nat.le_of_ble_eq_true rfl⟩) hK hX hP hD hS hA (pk (bs := [(CLK ty aC tC pC hC kC sC)]) (bsc := [(CLK ty aC tC pC hC kC sC)]) (bsr := []) [0] [] 1 rfl (by decide +kernel) rfl rfl) rfl hl.1 rfl (Nat.le_of_ble_eq_true rfl) dL_sound_360 ⟨Nat.le_of_ble_eq_true rfl, Nat.le_of_ble_eq_true rfl⟩ (fun r_191 u_190 h_192 H locs hP hD hS => ?_)
                                                                                        have h_r_191 : r_191 = pC.2.2.2 2 3 := h_192.trans (tr_2 _ 3)
                                                                                        subst h_r_191
                                                                                        have hP : va_P D vwCl (fl [(CLK ty aC tC pC hC kC sC)]) H := hP
                                                                                        have hD : va_D A (fl [(CLK ty aC tC pC hC kC sC)]) := hD
                                                                                        refine lv_iconst (v := 3) hx hb dL_sound_363 (by decide) ?_
                                                                                        refine lv_icmp_ge (tgt := 371) hx hb dL_sound_364 (by decide) (fun c_193 => ?_) (fun c_193 => ?_)
                                                                                        · first | exact absurd c_193 ((SG_rows hG (j := 3) (by decide) c_174).2.2) | exact absurd ((SG_rows hG (j := 3) (by decide) c_174).2.2) c_193
                                                                                        · skip
                                                                                          refine lv_iconst (v := 1) hx hb dL_sound_367 (by decide) ?_
                                                                                          refine lv_goto (tgt := 372) hx hb dL_sound_368 (by decide) ?_
                                                                                          refine lv_istore (lv' := [(8, .int 1), (9, .int 3), (7, .int ((((0 + (pC.1 29)) + (pC.1 32)) + (pC.1 35)) + (pC.1 38))), (6, .int ((((0 + (bz (pC.1 28))) + (bz (pC.1 31))) + (bz (pC.1 34))) + (bz (pC.1 37)))), (4, .long ((((Int32.toInt64 (pC.1 12)) + (Int32.toInt64 (pC.1 13))) + (Int32.toInt64 (pC.1 14))) + (Int32.toInt64 (pC.1 15)))), (3, .int (pdom pC.1)), (2, .int (pC.1 7)), (1, .int (pC.1 6)), (0, .ref (aC.1 0))]) hx hb dL_sound_372 hl (by decide) rfl (fun ls hl => ?_)
                                                                                          refine lv_iinc (v := 4) (lv' := [(9, .int 4), (8, .int 1), (7, .int ((((0 + (pC.1 29)) + (pC.1 32)) + (pC.1 35)) + (pC.1 38))), (6, .int ((((0 + (bz (pC.1 28))) + (bz (pC.1 31))) + (bz (pC.1 34))) + (bz (pC.1 37)))), (4, .long ((((Int32.toInt64 (pC.1 12)) + (Int32.toInt64 (pC.1 13))) + (Int32.toInt64 (pC.1 14))) + (Int32.toInt64 (pC.1 15)))), (3, .int (pdom pC.1)), (2, .int (pC.1 7)), (1, .int (pC.1 6)), (0, .ref (aC.1 0))]) hx hb dL_sound_374 hl (k := 1) rfl (by decide) (by decide) rfl (fun ls hl => ?_)
                                                                                          refine lv_goto (tgt := 309) hx hb dL_sound_377 (by decide) ?_
                                                                                          refine lv_iload hx hb dL_sound_309 (lv_at hl 0 rfl) ?_
                                                                                          refine lv_aload_n hx hb dL_sound_311 rfl (lv_at hl 8 rfl) ?_
                                                                                          refine lv_bipush (v := 10) hx hb dL_sound_312 (by decide) ?_
                                                                                          refine cSWi (As := [.ref (aC.1 0), .int 10]) (rest := [.int 4]) ⟨hx, hb, hml, hown, hts⟩ (k_about l D ty 10 aC tC pC hC kC sC hst ((inR_d (by decide +kernel)))) (vx_cwSW 2 hts gL_sound_L_tryAbout rfl rfl rfl (by decide +kernel) ⟨Nat.le_of_ble_eq_true rfl, Nat.le_of_ble_eq_true rfl⟩) hK hX hP hD hS hA (pk (bs := [(CLK ty aC tC pC hC kC sC)]) (bsc := [(CLK ty aC tC pC hC kC sC)]) (bsr := []) [0] [] 1 rfl (by decide +kernel) rfl rfl) rfl hl.1 rfl (Nat.le_of_ble_eq_true rfl) dL_sound_314 ⟨Nat.le_of_ble_eq_true rfl, Nat.le_of_ble_eq_true rfl⟩ (fun r_195 u_194 h_196 H locs hP hD hS => ?_)
                                                                                          have h_r_195 : r_195 = pC.1 11 := h_196.trans (tell_10 _)
                                                                                          subst h_r_195
                                                                                          have hP : va_P D vwCl (fl [(CLK ty aC tC pC hC kC sC)]) H := hP
                                                                                          have hD : va_D A (fl [(CLK ty aC tC pC hC kC sC)]) := hD
                                                                                          refine lv_icmp_ge (tgt := 380) hx hb dL_sound_317 (by decide) (fun c_197 => ?_) (fun c_197 => ?_)
                                                                                          · skip
                                                                                            refine lv_iload hx hb dL_sound_380 (lv_at hl 1 rfl) ?_
                                                                                            refine lv_if_eq (tgt := 437) hx hb dL_sound_382 (by decide) (fun c_198 => ?_) (fun c_198 => ?_)
                                                                                            · exact absurd c_198 (by decide)
                                                                                            · skip
                                                                                              refine lv_iload_n hx hb dL_sound_385 rfl (lv_at hl 5 rfl) ?_
                                                                                              refine lv_iconst (v := 3) hx hb dL_sound_386 (by decide) ?_
                                                                                              refine lv_icmp_ne (tgt := 433) hx hb dL_sound_387 (by decide) (fun c_199 => ?_) (fun c_199 => ?_)
                                                                                              · skip
                                                                                                refine lv_iconst (v := 1) hx hb dL_sound_433 (by decide) ?_
                                                                                                refine lv_goto (tgt := 438) hx hb dL_sound_434 (by decide) ?_
                                                                                                subst hQg
                                                                                                have hP : va_P D vwCl (fl [(CLK ty aC tC pC hC kC sC)]) H := hP
                                                                                                have hD : va_D A (fl [(CLK ty aC tC pC hC kC sC)]) := hD
                                                                                                exact end_z (bs' := (fun (_ : Unit) => [(CLK ty aC tC pC hC kC sC)])) () hx hb hr hlocks rfl hP hD hS rfl (Nat.le_of_ble_eq_true rfl) (Nat.le_of_ble_eq_true rfl) dL_sound_438
                                                                                              · first | exact absurd c_199 c_101 | exact absurd c_101 c_199
                                                                                          · skip
                                                                                            refine lv_iload hx hb dL_sound_320 (lv_at hl 1 rfl) ?_
                                                                                            refine lv_if_eq (tgt := 380) hx hb dL_sound_322 (by decide) (fun c_200 => ?_) (fun c_200 => ?_)
                                                                                            · exact absurd c_200 (by decide)
                                                                                            · skip
                                                                                              refine lv_aload_n hx hb dL_sound_325 rfl (lv_at hl 8 rfl) ?_
                                                                                              refine lv_iload hx hb dL_sound_326 (lv_at hl 0 rfl) ?_
                                                                                              refine lv_iconst (v := 0) hx hb dL_sound_328 (by decide) ?_
                                                                                              refine cSWi (As := [.ref (aC.1 0), .int 4, .int 0]) (rest := []) ⟨hx, hb, hml, hown, hts⟩ (k_row l D ty 4 0 aC tC pC hC kC sC hst ((SG_Rw hG).2) ((inI_row (j := 4) (by decide) c_197)) ((inR_d (by decide +kernel)))) (vx_cwSW 3 hts gL_sound_L_tryRow rfl rfl rfl (by decide +kernel) ⟨Nat.le_of_ble_eq_true rfl, Nat.le_of_ble_eq_true rfl⟩) hK hX hP hD hS hA (pk (bs := [(CLK ty aC tC pC hC kC sC)]) (bsc := [(CLK ty aC tC pC hC kC sC)]) (bsr := []) [0] [] 1 rfl (by decide +kernel) rfl rfl) rfl hl.1 rfl (Nat.le_of_ble_eq_true rfl) dL_sound_329 ⟨Nat.le_of_ble_eq_true rfl, Nat.le_of_ble_eq_true rfl⟩ (fun r_202 u_201 h_203 H locs hP hD hS => ?_)
                                                                                              have h_r_202 : r_202 = pC.2.2.2 0 4 := h_203.trans (tr_0 _ 4)
                                                                                              subst h_r_202
                                                                                              have hP : va_P D vwCl (fl [(CLK ty aC tC pC hC kC sC)]) H := hP
                                                                                              have hD : va_D A (fl [(CLK ty aC tC pC hC kC sC)]) := hD
                                                                                              refine lv_if_lt (tgt := 371) hx hb dL_sound_332 (by decide) (fun c_204 => ?_) (fun c_204 => ?_)
                                                                                              · first | exact absurd c_204 ((SG_rows hG (j := 4) (by decide) c_197).1.1) | exact absurd ((SG_rows hG (j := 4) (by decide) c_197).1.1) c_204
                                                                                              · skip
                                                                                                refine lv_aload_n hx hb dL_sound_335 rfl (lv_at hl 8 rfl) ?_
                                                                                                refine lv_iload hx hb dL_sound_336 (lv_at hl 0 rfl) ?_
                                                                                                refine lv_iconst (v := 0) hx hb dL_sound_338 (by decide) ?_
                                                                                                refine cSWi (As := [.ref (aC.1 0), .int 4, .int 0]) (rest := []) ⟨hx, hb, hml, hown, hts⟩ (k_row l D ty 4 0 aC tC pC hC kC sC hst ((SG_Rw hG).2) ((inI_row (j := 4) (by decide) c_197)) ((inR_d (by decide +kernel)))) (vx_cwSW 3 hts gL_sound_L_tryRow rfl rfl rfl (by decide +kernel) ⟨Nat.le_of_ble_eq_true rfl, Nat.le_of_ble_eq_true rfl⟩) hK hX hP hD hS hA (pk (bs := [(CLK ty aC tC pC hC kC sC)]) (bsc := [(CLK ty aC tC pC hC kC sC)]) (bsr := []) [0] [] 1 rfl (by decide +kernel) rfl rfl) rfl hl.1 rfl (Nat.le_of_ble_eq_true rfl) dL_sound_339 ⟨Nat.le_of_ble_eq_true rfl, Nat.le_of_ble_eq_true rfl⟩ (fun r_206 u_205 h_207 H locs hP hD hS => ?_)
                                                                                                have h_r_206 : r_206 = pC.2.2.2 0 4 := h_207.trans (tr_0 _ 4)
                                                                                                subst h_r_206
                                                                                                have hP : va_P D vwCl (fl [(CLK ty aC tC pC hC kC sC)]) H := hP
                                                                                                have hD : va_D A (fl [(CLK ty aC tC pC hC kC sC)]) := hD
                                                                                                refine lv_iconst (v := 3) hx hb dL_sound_342 (by decide) ?_
                                                                                                refine lv_icmp_ge (tgt := 371) hx hb dL_sound_343 (by decide) (fun c_208 => ?_) (fun c_208 => ?_)
                                                                                                · first | exact absurd c_208 ((SG_rows hG (j := 4) (by decide) c_197).1.2) | exact absurd ((SG_rows hG (j := 4) (by decide) c_197).1.2) c_208
                                                                                                · skip
                                                                                                  refine lv_aload_n hx hb dL_sound_346 rfl (lv_at hl 8 rfl) ?_
                                                                                                  refine lv_iload hx hb dL_sound_347 (lv_at hl 0 rfl) ?_
                                                                                                  refine lv_iconst (v := 2) hx hb dL_sound_349 (by decide) ?_
                                                                                                  refine cSWi (As := [.ref (aC.1 0), .int 4, .int 2]) (rest := []) ⟨hx, hb, hml, hown, hts⟩ (k_row l D ty 4 2 aC tC pC hC kC sC hst ((SG_Rw hG).2) ((inI_row (j := 4) (by decide) c_197)) ((inR_d (by decide +kernel)))) (vx_cwSW 3 hts gL_sound_L_tryRow rfl rfl rfl (by decide +kernel) ⟨Nat.le_of_ble_eq_true rfl, Nat.le_of_ble_eq_true rfl⟩) hK hX hP hD hS hA (pk (bs := [(CLK ty aC tC pC hC kC sC)]) (bsc := [(CLK ty aC tC pC hC kC sC)]) (bsr := []) [0] [] 1 rfl (by decide +kernel) rfl rfl) rfl hl.1 rfl (Nat.le_of_ble_eq_true rfl) dL_sound_350 ⟨Nat.le_of_ble_eq_true rfl, Nat.le_of_ble_eq_true rfl⟩ (fun r_210 u_209 h_211 H locs hP hD hS => ?_)
                                                                                                  have h_r_210 : r_210 = pC.2.2.2 2 4 := h_211.trans (tr_2 _ 4)
                                                                                                  subst h_r_210
                                                                                                  have hP : va_P D vwCl (fl [(CLK ty aC tC pC hC kC sC)]) H := hP
                                                                                                  have hD : va_D A (fl [(CLK ty aC tC pC hC kC sC)]) := hD
                                                                                                  refine lv_if_lt (tgt := 371) hx hb dL_sound_353 (by decide) (fun c_212 => ?_) (fun c_212 => ?_)
                                                                                                  · first | exact absurd c_212 ((SG_rows hG (j := 4) (by decide) c_197).2.1) | exact absurd ((SG_rows hG (j := 4) (by decide) c_197).2.1) c_212
                                                                                                  · skip
                                                                                                    refine lv_aload_n hx hb dL_sound_356 rfl (lv_at hl 8 rfl) ?_
                                                                                                    refine lv_iload hx hb dL_sound_357 (lv_at hl 0 rfl) ?_
                                                                                                    refine lv_iconst (v := 2) hx hb dL_sound_359 (by decide) ?_
                                                                                                    refine cSWi (As := [.ref (aC.1 0), .int 4, .int 2]) (rest := []) ⟨hx, hb, hml, hown, hts⟩ (k_row l D ty 4 2 aC tC pC hC kC sC hst ((SG_Rw hG).2) ((inI_row (j := 4) (by decide) c_197)) ((inR_d (by decide +kernel)))) (vx_cwSW 3 hts gL_sound_L_tryRow rfl rfl rfl (by decide +kernel) ⟨Nat.le_of_ble_eq_true rfl, Nat.le_of_ble_eq_true rfl⟩) hK hX hP hD hS hA (pk (bs := [(CLK ty aC tC pC hC kC sC)]) (bsc := [(CLK ty aC tC pC hC kC sC)]) (bsr := []) [0] [] 1 rfl (by decide +kernel) rfl rfl) rfl hl.1 rfl (Nat.le_of_ble_eq_true rfl) dL_sound_360 ⟨Nat.le_of_ble_eq_true rfl, Nat.le_of_ble_eq_true rfl⟩ (fun r_214 u_213 h_215 H locs hP hD hS => ?_)
                                                                                                    have h_r_214 : r_214 = pC.2.2.2 2 4 := h_215.trans (tr_2 _ 4)
                                                                                                    subst h_r_214
                                                                                                    have hP : va_P D vwCl (fl [(CLK ty aC tC pC hC kC sC)]) H := hP
                                                                                                    have hD : va_D A (fl [(CLK ty aC tC pC hC kC sC)]) := hD
                                                                                                    refine lv_iconst (v := 3) hx hb dL_sound_363 (by decide) ?_
                                                                                                    refine lv_icmp_ge (tgt := 371) hx hb dL_sound_364 (by decide) (fun c_216 => ?_) (fun c_216 => ?_)
                                                                                                    · first | exact absurd c_216 ((SG_rows hG (j := 4) (by decide) c_197).2.2) | exact absurd ((SG_rows hG (j := 4) (by decide) c_197).2.2) c_216
                                                                                                    · skip
                                                                                                      refine lv_iconst (v := 1) hx hb dL_sound_367 (by decide) ?_
                                                                                                      refine lv_goto (tgt := 372) hx hb dL_sound_368 (by decide) ?_
                                                                                                      refine lv_istore (lv' := [(8, .int 1), (9, .int 4), (7, .int ((((0 + (pC.1 29)) + (pC.1 32)) + (pC.1 35)) + (pC.1 38))), (6, .int ((((0 + (bz (pC.1 28))) + (bz (pC.1 31))) + (bz (pC.1 34))) + (bz (pC.1 37)))), (4, .long ((((Int32.toInt64 (pC.1 12)) + (Int32.toInt64 (pC.1 13))) + (Int32.toInt64 (pC.1 14))) + (Int32.toInt64 (pC.1 15)))), (3, .int (pdom pC.1)), (2, .int (pC.1 7)), (1, .int (pC.1 6)), (0, .ref (aC.1 0))]) hx hb dL_sound_372 hl (by decide) rfl (fun ls hl => ?_)
                                                                                                      refine lv_iinc (v := 5) (lv' := [(9, .int 5), (8, .int 1), (7, .int ((((0 + (pC.1 29)) + (pC.1 32)) + (pC.1 35)) + (pC.1 38))), (6, .int ((((0 + (bz (pC.1 28))) + (bz (pC.1 31))) + (bz (pC.1 34))) + (bz (pC.1 37)))), (4, .long ((((Int32.toInt64 (pC.1 12)) + (Int32.toInt64 (pC.1 13))) + (Int32.toInt64 (pC.1 14))) + (Int32.toInt64 (pC.1 15)))), (3, .int (pdom pC.1)), (2, .int (pC.1 7)), (1, .int (pC.1 6)), (0, .ref (aC.1 0))]) hx hb dL_sound_374 hl (k := 1) rfl (by decide) (by decide) rfl (fun ls hl => ?_)
                                                                                                      refine lv_goto (tgt := 309) hx hb dL_sound_377 (by decide) ?_
                                                                                                      refine lv_iload hx hb dL_sound_309 (lv_at hl 0 rfl) ?_
                                                                                                      refine lv_aload_n hx hb dL_sound_311 rfl (lv_at hl 8 rfl) ?_
                                                                                                      refine lv_bipush (v := 10) hx hb dL_sound_312 (by decide) ?_
                                                                                                      refine cSWi (As := [.ref (aC.1 0), .int 10]) (rest := [.int 5]) ⟨hx, hb, hml, hown, hts⟩ (k_about l D ty 10 aC tC pC hC kC sC hst ((inR_d (by decide +kernel)))) (vx_cwSW 2 hts gL_sound_L_tryAbout rfl rfl rfl (by decide +kernel) ⟨Nat.le_of_ble_eq_true rfl, Nat.le_of_ble_eq_true rfl⟩) hK hX hP hD hS hA (pk (bs := [(CLK ty aC tC pC hC kC sC)]) (bsc := [(CLK ty aC tC pC hC kC sC)]) (bsr := []) [0] [] 1 rfl (by decide +kernel) rfl rfl) rfl hl.1 rfl (Nat.le_of_ble_eq_true rfl) dL_sound_314 ⟨Nat.le_of_ble_eq_true rfl, Nat.le_of_ble_eq_true rfl⟩ (fun r_218 u_217 h_219 H locs hP hD hS => ?_)
                                                                                                      have h_r_218 : r_218 = pC.1 11 := h_219.trans (tell_10 _)
                                                                                                      subst h_r_218
                                                                                                      have hP : va_P D vwCl (fl [(CLK ty aC tC pC hC kC sC)]) H := hP
                                                                                                      have hD : va_D A (fl [(CLK ty aC tC pC hC kC sC)]) := hD
                                                                                                      refine lv_icmp_ge (tgt := 380) hx hb dL_sound_317 (by decide) (fun c_220 => ?_) (fun c_220 => ?_)
                                                                                                      · skip
                                                                                                        refine lv_iload hx hb dL_sound_380 (lv_at hl 1 rfl) ?_
                                                                                                        refine lv_if_eq (tgt := 437) hx hb dL_sound_382 (by decide) (fun c_221 => ?_) (fun c_221 => ?_)
                                                                                                        · exact absurd c_221 (by decide)
                                                                                                        · skip
                                                                                                          refine lv_iload_n hx hb dL_sound_385 rfl (lv_at hl 5 rfl) ?_
                                                                                                          refine lv_iconst (v := 3) hx hb dL_sound_386 (by decide) ?_
                                                                                                          refine lv_icmp_ne (tgt := 433) hx hb dL_sound_387 (by decide) (fun c_222 => ?_) (fun c_222 => ?_)
                                                                                                          · skip
                                                                                                            refine lv_iconst (v := 1) hx hb dL_sound_433 (by decide) ?_
                                                                                                            refine lv_goto (tgt := 438) hx hb dL_sound_434 (by decide) ?_
                                                                                                            subst hQg
                                                                                                            have hP : va_P D vwCl (fl [(CLK ty aC tC pC hC kC sC)]) H := hP
                                                                                                            have hD : va_D A (fl [(CLK ty aC tC pC hC kC sC)]) := hD
                                                                                                            exact end_z (bs' := (fun (_ : Unit) => [(CLK ty aC tC pC hC kC sC)])) () hx hb hr hlocks rfl hP hD hS rfl (Nat.le_of_ble_eq_true rfl) (Nat.le_of_ble_eq_true rfl) dL_sound_438
                                                                                                          · first | exact absurd c_222 c_101 | exact absurd c_101 c_222
                                                                                                      · skip
                                                                                                        refine lv_iload hx hb dL_sound_320 (lv_at hl 1 rfl) ?_
                                                                                                        refine lv_if_eq (tgt := 380) hx hb dL_sound_322 (by decide) (fun c_223 => ?_) (fun c_223 => ?_)
                                                                                                        · exact absurd c_223 (by decide)
                                                                                                        · skip
                                                                                                          refine lv_aload_n hx hb dL_sound_325 rfl (lv_at hl 8 rfl) ?_
                                                                                                          refine lv_iload hx hb dL_sound_326 (lv_at hl 0 rfl) ?_
                                                                                                          refine lv_iconst (v := 0) hx hb dL_sound_328 (by decide) ?_
                                                                                                          refine cSWi (As := [.ref (aC.1 0), .int 5, .int 0]) (rest := []) ⟨hx, hb, hml, hown, hts⟩ (k_row l D ty 5 0 aC tC pC hC kC sC hst ((SG_Rw hG).2) ((inI_row (j := 5) (by decide) c_220)) ((inR_d (by decide +kernel)))) (vx_cwSW 3 hts gL_sound_L_tryRow rfl rfl rfl (by decide +kernel) ⟨Nat.le_of_ble_eq_true rfl, Nat.le_of_ble_eq_true rfl⟩) hK hX hP hD hS hA (pk (bs := [(CLK ty aC tC pC hC kC sC)]) (bsc := [(CLK ty aC tC pC hC kC sC)]) (bsr := []) [0] [] 1 rfl (by decide +kernel) rfl rfl) rfl hl.1 rfl (Nat.le_of_ble_eq_true rfl) dL_sound_329 ⟨Nat.le_of_ble_eq_true rfl, Nat.le_of_ble_eq_true rfl⟩ (fun r_225 u_224 h_226 H locs hP hD hS => ?_)
                                                                                                          have h_r_225 : r_225 = pC.2.2.2 0 5 := h_226.trans (tr_0 _ 5)
                                                                                                          subst h_r_225
                                                                                                          have hP : va_P D vwCl (fl [(CLK ty aC tC pC hC kC sC)]) H := hP
                                                                                                          have hD : va_D A (fl [(CLK ty aC tC pC hC kC sC)]) := hD
                                                                                                          refine lv_if_lt (tgt := 371) hx hb dL_sound_332 (by decide) (fun c_227 => ?_) (fun c_227 => ?_)
                                                                                                          · first | exact absurd c_227 ((SG_rows hG (j := 5) (by decide) c_220).1.1) | exact absurd ((SG_rows hG (j := 5) (by decide) c_220).1.1) c_227
                                                                                                          · skip
                                                                                                            refine lv_aload_n hx hb dL_sound_335 rfl (lv_at hl 8 rfl) ?_
                                                                                                            refine lv_iload hx hb dL_sound_336 (lv_at hl 0 rfl) ?_
                                                                                                            refine lv_iconst (v := 0) hx hb dL_sound_338 (by decide) ?_
                                                                                                            refine cSWi (As := [.ref (aC.1 0), .int 5, .int 0]) (rest := []) ⟨hx, hb, hml, hown, hts⟩ (k_row l D ty 5 0 aC tC pC hC kC sC hst ((SG_Rw hG).2) ((inI_row (j := 5) (by decide) c_220)) ((inR_d (by decide +kernel)))) (vx_cwSW 3 hts gL_sound_L_tryRow rfl rfl rfl (by decide +kernel) ⟨Nat.le_of_ble_eq_true rfl, Nat.le_of_ble_eq_true rfl⟩) hK hX hP hD hS hA (pk (bs := [(CLK ty aC tC pC hC kC sC)]) (bsc := [(CLK ty aC tC pC hC kC sC)]) (bsr := []) [0] [] 1 rfl (by decide +kernel) rfl rfl) rfl hl.1 rfl (Nat.le_of_ble_eq_true rfl) dL_sound_339 ⟨Nat.le_of_ble_eq_true rfl, Nat.le_of_ble_eq_true rfl⟩ (fun r_229 u_228 h_230 H locs hP hD hS => ?_)
                                                                                                            have h_r_229 : r_229 = pC.2.2.2 0 5 := h_230.trans (tr_0 _ 5)
                                                                                                            subst h_r_229
                                                                                                            have hP : va_P D vwCl (fl [(CLK ty aC tC pC hC kC sC)]) H := hP
                                                                                                            have hD : va_D A (fl [(CLK ty aC tC pC hC kC sC)]) := hD
                                                                                                            refine lv_iconst (v := 3) hx hb dL_sound_342 (by decide) ?_
                                                                                                            refine lv_icmp_ge (tgt := 371) hx hb dL_sound_343 (by decide) (fun c_231 => ?_) (fun c_231 => ?_)
                                                                                                            · first | exact absurd c_231 ((SG_rows hG (j := 5) (by decide) c_220).1.2) | exact absurd ((SG_rows hG (j := 5) (by decide) c_220).1.2) c_231
                                                                                                            · skip
                                                                                                              refine lv_aload_n hx hb dL_sound_346 rfl (lv_at hl 8 rfl) ?_
                                                                                                              refine lv_iload hx hb dL_sound_347 (lv_at hl 0 rfl) ?_
                                                                                                              refine lv_iconst (v := 2) hx hb dL_sound_349 (by decide) ?_
                                                                                                              refine cSWi (As := [.ref (aC.1 0), .int 5, .int 2]) (rest := []) ⟨hx, hb, hml, hown, hts⟩ (k_row l D ty 5 2 aC tC pC hC kC sC hst ((SG_Rw hG).2) ((inI_row (j := 5) (by decide) c_220)) ((inR_d (by decide +kernel)))) (vx_cwSW 3 hts gL_sound_L_tryRow rfl rfl rfl (by decide +kernel) ⟨Nat.le_of_ble_eq_true rfl, Nat.le_of_ble_eq_true rfl⟩) hK hX hP hD hS hA (pk (bs := [(CLK ty aC tC pC hC kC sC)]) (bsc := [(CLK ty aC tC pC hC kC sC)]) (bsr := []) [0] [] 1 rfl (by decide +kernel) rfl rfl) rfl hl.1 rfl (Nat.le_of_ble_eq_true rfl) dL_sound_350 ⟨Nat.le_of_ble_eq_true rfl, Nat.le_of_ble_eq_true rfl⟩ (fun r_233 u_232 h_234 H locs hP hD hS => ?_)
                                                                                                              have h_r_233 : r_233 = pC.2.2.2 2 5 := h_234.trans (tr_2 _ 5)
                                                                                                              subst h_r_233
                                                                                                              have hP : va_P D vwCl (fl [(CLK ty aC tC pC hC kC sC)]) H := hP
                                                                                                              have hD : va_D A (fl [(CLK ty aC tC pC hC kC sC)]) := hD
                                                                                                              refine lv_if_lt (tgt := 371) hx hb dL_sound_353 (by decide) (fun c_235 => ?_) (fun c_235 => ?_)
                                                                                                              · first | exact absurd c_235 ((SG_rows hG (j := 5) (by decide) c_220).2.1) | exact absurd ((SG_rows hG (j := 5) (by decide) c_220).2.1) c_235
                                                                                                              · skip
                                                                                                                refine lv_aload_n hx hb dL_sound_356 rfl (lv_at hl 8 rfl) ?_
                                                                                                                refine lv_iload hx hb dL_sound_357 (lv_at hl 0 rfl) ?_
                                                                                                                refine lv_iconst (v := 2) hx hb dL_sound_359 (by decide) ?_
                                                                                                                refine cSWi (As := [.ref (aC.1 0), .int 5, .int 2]) (rest := []) ⟨hx, hb, hml, hown, hts⟩ (k_row l D ty 5 2 aC tC pC hC kC sC hst ((SG_Rw hG).2) ((inI_row (j := 5) (by decide) c_220)) ((inR_d (by decide +kernel)))) (vx_cwSW 3 hts gL_sound_L_tryRow rfl rfl rfl (by decide +kernel) ⟨Nat.le_of_ble_eq_true rfl, Nat.le_of_ble_eq_true rfl⟩) hK hX hP hD hS hA (pk (bs := [(CLK ty aC tC pC hC kC sC)]) (bsc := [(CLK ty aC tC pC hC kC sC)]) (bsr := []) [0] [] 1 rfl (by decide +kernel) rfl rfl) rfl hl.1 rfl (Nat.le_of_ble_eq_true rfl) dL_sound_360 ⟨Nat.le_of_ble_eq_true rfl, Nat.le_of_ble_eq_true rfl⟩ (fun r_237 u_236 h_238 H locs hP hD hS => ?_)
                                                                                                                have h_r_237 : r_237 = pC.2.2.2 2 5 := h_238.trans (tr_2 _ 5)
                                                                                                                subst h_r_237
                                                                                                                have hP : va_P D vwCl (fl [(CLK ty aC tC pC hC kC sC)]) H := hP
                                                                                                                have hD : va_D A (fl [(CLK ty aC tC pC hC kC sC)]) := hD
                                                                                                                refine lv_iconst (v := 3) hx hb dL_sound_363 (by decide) ?_
                                                                                                                refine lv_icmp_ge (tgt := 371) hx hb dL_sound_364 (by decide) (fun c_239 => ?_) (fun c_239 => ?_)
                                                                                                                · first | exact absurd c_239 ((SG_rows hG (j := 5) (by decide) c_220).2.2) | exact absurd ((SG_rows hG (j := 5) (by decide) c_220).2.2) c_239
                                                                                                                · skip
                                                                                                                  refine lv_iconst (v := 1) hx hb dL_sound_367 (by decide) ?_
                                                                                                                  refine lv_goto (tgt := 372) hx hb dL_sound_368 (by decide) ?_
                                                                                                                  refine lv_istore (lv' := [(8, .int 1), (9, .int 5), (7, .int ((((0 + (pC.1 29)) + (pC.1 32)) + (pC.1 35)) + (pC.1 38))), (6, .int ((((0 + (bz (pC.1 28))) + (bz (pC.1 31))) + (bz (pC.1 34))) + (bz (pC.1 37)))), (4, .long ((((Int32.toInt64 (pC.1 12)) + (Int32.toInt64 (pC.1 13))) + (Int32.toInt64 (pC.1 14))) + (Int32.toInt64 (pC.1 15)))), (3, .int (pdom pC.1)), (2, .int (pC.1 7)), (1, .int (pC.1 6)), (0, .ref (aC.1 0))]) hx hb dL_sound_372 hl (by decide) rfl (fun ls hl => ?_)
                                                                                                                  refine lv_iinc (v := 6) (lv' := [(9, .int 6), (8, .int 1), (7, .int ((((0 + (pC.1 29)) + (pC.1 32)) + (pC.1 35)) + (pC.1 38))), (6, .int ((((0 + (bz (pC.1 28))) + (bz (pC.1 31))) + (bz (pC.1 34))) + (bz (pC.1 37)))), (4, .long ((((Int32.toInt64 (pC.1 12)) + (Int32.toInt64 (pC.1 13))) + (Int32.toInt64 (pC.1 14))) + (Int32.toInt64 (pC.1 15)))), (3, .int (pdom pC.1)), (2, .int (pC.1 7)), (1, .int (pC.1 6)), (0, .ref (aC.1 0))]) hx hb dL_sound_374 hl (k := 1) rfl (by decide) (by decide) rfl (fun ls hl => ?_)
                                                                                                                  refine lv_goto (tgt := 309) hx hb dL_sound_377 (by decide) ?_
                                                                                                                  refine lv_iload hx hb dL_sound_309 (lv_at hl 0 rfl) ?_
                                                                                                                  refine lv_aload_n hx hb dL_sound_311 rfl (lv_at hl 8 rfl) ?_
                                                                                                                  refine lv_bipush (v := 10) hx hb dL_sound_312 (by decide) ?_
                                                                                                                  refine cSWi (As := [.ref (aC.1 0), .int 10]) (rest := [.int 6]) ⟨hx, hb, hml, hown, hts⟩ (k_about l D ty 10 aC tC pC hC kC sC hst ((inR_d (by decide +kernel)))) (vx_cwSW 2 hts gL_sound_L_tryAbout rfl rfl rfl (by decide +kernel) ⟨Nat.le_of_ble_eq_true rfl, Nat.le_of_ble_eq_true rfl⟩) hK hX hP hD hS hA (pk (bs := [(CLK ty aC tC pC hC kC sC)]) (bsc := [(CLK ty aC tC pC hC kC sC)]) (bsr := []) [0] [] 1 rfl (by decide +kernel) rfl rfl) rfl hl.1 rfl (Nat.le_of_ble_eq_true rfl) dL_sound_314 ⟨Nat.le_of_ble_eq_true rfl, Nat.le_of_ble_eq_true rfl⟩ (fun r_241 u_240 h_242 H locs hP hD hS => ?_)
                                                                                                                  have h_r_241 : r_241 = pC.1 11 := h_242.trans (tell_10 _)
                                                                                                                  subst h_r_241
                                                                                                                  have hP : va_P D vwCl (fl [(CLK ty aC tC pC hC kC sC)]) H := hP
                                                                                                                  have hD : va_D A (fl [(CLK ty aC tC pC hC kC sC)]) := hD
                                                                                                                  refine lv_icmp_ge (tgt := 380) hx hb dL_sound_317 (by decide) (fun c_243 => ?_) (fun c_243 => ?_)
                                                                                                                  · skip
                                                                                                                    refine lv_iload hx hb dL_sound_380 (lv_at hl 1 rfl) ?_
                                                                                                                    refine lv_if_eq (tgt := 437) hx hb dL_sound_382 (by decide) (fun c_244 => ?_) (fun c_244 => ?_)
                                                                                                                    · exact absurd c_244 (by decide)
                                                                                                                    · skip
                                                                                                                      refine lv_iload_n hx hb dL_sound_385 rfl (lv_at hl 5 rfl) ?_
                                                                                                                      refine lv_iconst (v := 3) hx hb dL_sound_386 (by decide) ?_
                                                                                                                      refine lv_icmp_ne (tgt := 433) hx hb dL_sound_387 (by decide) (fun c_245 => ?_) (fun c_245 => ?_)
                                                                                                                      · skip
                                                                                                                        refine lv_iconst (v := 1) hx hb dL_sound_433 (by decide) ?_
                                                                                                                        refine lv_goto (tgt := 438) hx hb dL_sound_434 (by decide) ?_
                                                                                                                        subst hQg
                                                                                                                        have hP : va_P D vwCl (fl [(CLK ty aC tC pC hC kC sC)]) H := hP
                                                                                                                        have hD : va_D A (fl [(CLK ty aC tC pC hC kC sC)]) := hD
                                                                                                                        exact end_z (bs' := (fun (_ : Unit) => [(CLK ty aC tC pC hC kC sC)])) () hx hb hr hlocks rfl hP hD hS rfl (Nat.le_of_ble_eq_true rfl) (Nat.le_of_ble_eq_true rfl) dL_sound_438
                                                                                                                      · first | exact absurd c_245 c_101 | exact absurd c_101 c_245
                                                                                                                  · first | exact absurd c_243 (SG_row6' hG) | exact absurd (SG_row6' hG) c_243
                                        · skip
                                          refine lv_aload_n hx hb dL_sound_284 rfl (lv_at hl 8 rfl) ?_
                                          refine lv_iload hx hb dL_sound_285 (lv_at hl 0 rfl) ?_
                                          refine cSWi (As := [.ref (aC.1 0), .int 0]) (rest := []) ⟨hx, hb, hml, hown, hts⟩ (k_register l D ty 0 aC tC pC hC kC sC hst ((inI_d (by decide +kernel)))) (vx_cwSW 2 hts gL_sound_L_tryRegister rfl rfl rfl (by decide +kernel) ⟨Nat.le_of_ble_eq_true rfl, Nat.le_of_ble_eq_true rfl⟩) hK hX hP hD hS hA (pk (bs := [(CLK ty aC tC pC hC kC sC)]) (bsc := [(CLK ty aC tC pC hC kC sC)]) (bsr := []) [0] [] 1 rfl (by decide +kernel) rfl rfl) rfl hl.1 rfl (Nat.le_of_ble_eq_true rfl) dL_sound_287 ⟨Nat.le_of_ble_eq_true rfl, Nat.le_of_ble_eq_true rfl⟩ (fun r_247 u_246 h_248 H locs hP hD hS => ?_)
                                          have h_r_247 : r_247 = (pC.1 16) := h_248.trans rfl
                                          subst h_r_247
                                          have hP : va_P D vwCl (fl [(CLK ty aC tC pC hC kC sC)]) H := hP
                                          have hD : va_D A (fl [(CLK ty aC tC pC hC kC sC)]) := hD
                                          refine lv_if_ne (tgt := 297) hx hb dL_sound_290 (by decide) (fun c_249 => ?_) (fun c_249 => ?_)
                                          · first | exact absurd c_249 ((show (pC.1 16) = 0 from SG_zr hG c_101 (by decide) (by decide))) | exact absurd ((show (pC.1 16) = 0 from SG_zr hG c_101 (by decide) (by decide))) c_249
                                          · skip
                                            refine lv_iconst (v := 1) hx hb dL_sound_293 (by decide) ?_
                                            refine lv_goto (tgt := 298) hx hb dL_sound_294 (by decide) ?_
                                            refine lv_istore (lv' := [(8, .int 1), (9, .int 0), (7, .int ((((0 + (pC.1 29)) + (pC.1 32)) + (pC.1 35)) + (pC.1 38))), (6, .int ((((0 + (bz (pC.1 28))) + (bz (pC.1 31))) + (bz (pC.1 34))) + (bz (pC.1 37)))), (4, .long ((((Int32.toInt64 (pC.1 12)) + (Int32.toInt64 (pC.1 13))) + (Int32.toInt64 (pC.1 14))) + (Int32.toInt64 (pC.1 15)))), (3, .int (pdom pC.1)), (2, .int (pC.1 7)), (1, .int (pC.1 6)), (0, .ref (aC.1 0))]) hx hb dL_sound_298 hl (by decide) rfl (fun ls hl => ?_)
                                            refine lv_iinc (v := 1) (lv' := [(9, .int 1), (8, .int 1), (7, .int ((((0 + (pC.1 29)) + (pC.1 32)) + (pC.1 35)) + (pC.1 38))), (6, .int ((((0 + (bz (pC.1 28))) + (bz (pC.1 31))) + (bz (pC.1 34))) + (bz (pC.1 37)))), (4, .long ((((Int32.toInt64 (pC.1 12)) + (Int32.toInt64 (pC.1 13))) + (Int32.toInt64 (pC.1 14))) + (Int32.toInt64 (pC.1 15)))), (3, .int (pdom pC.1)), (2, .int (pC.1 7)), (1, .int (pC.1 6)), (0, .ref (aC.1 0))]) hx hb dL_sound_300 hl (k := 1) rfl (by decide) (by decide) rfl (fun ls hl => ?_)
                                            refine lv_goto (tgt := 267) hx hb dL_sound_303 (by decide) ?_
                                            refine lv_iload hx hb dL_sound_267 (lv_at hl 0 rfl) ?_
                                            refine lv_bipush (v := 8) hx hb dL_sound_269 (by decide) ?_
                                            refine lv_icmp_ge (tgt := 306) hx hb dL_sound_271 (by decide) (fun c_250 => ?_) (fun c_250 => ?_)
                                            · exact absurd c_250 (by decide)
                                            · skip
                                              refine lv_iload hx hb dL_sound_274 (lv_at hl 1 rfl) ?_
                                              refine lv_if_eq (tgt := 306) hx hb dL_sound_276 (by decide) (fun c_251 => ?_) (fun c_251 => ?_)
                                              · exact absurd c_251 (by decide)
                                              · skip
                                                refine lv_iload_n hx hb dL_sound_279 rfl (lv_at hl 5 rfl) ?_
                                                refine lv_iconst (v := 3) hx hb dL_sound_280 (by decide) ?_
                                                refine lv_icmp_ne (tgt := 306) hx hb dL_sound_281 (by decide) (fun c_252 => ?_) (fun c_252 => ?_)
                                                · first | exact absurd c_252 c_101 | exact absurd c_101 c_252
                                                · skip
                                                  refine lv_aload_n hx hb dL_sound_284 rfl (lv_at hl 8 rfl) ?_
                                                  refine lv_iload hx hb dL_sound_285 (lv_at hl 0 rfl) ?_
                                                  refine cSWi (As := [.ref (aC.1 0), .int 1]) (rest := []) ⟨hx, hb, hml, hown, hts⟩ (k_register l D ty 1 aC tC pC hC kC sC hst ((inI_d (by decide +kernel)))) (vx_cwSW 2 hts gL_sound_L_tryRegister rfl rfl rfl (by decide +kernel) ⟨Nat.le_of_ble_eq_true rfl, Nat.le_of_ble_eq_true rfl⟩) hK hX hP hD hS hA (pk (bs := [(CLK ty aC tC pC hC kC sC)]) (bsc := [(CLK ty aC tC pC hC kC sC)]) (bsr := []) [0] [] 1 rfl (by decide +kernel) rfl rfl) rfl hl.1 rfl (Nat.le_of_ble_eq_true rfl) dL_sound_287 ⟨Nat.le_of_ble_eq_true rfl, Nat.le_of_ble_eq_true rfl⟩ (fun r_254 u_253 h_255 H locs hP hD hS => ?_)
                                                  have h_r_254 : r_254 = (pC.1 17) := h_255.trans rfl
                                                  subst h_r_254
                                                  have hP : va_P D vwCl (fl [(CLK ty aC tC pC hC kC sC)]) H := hP
                                                  have hD : va_D A (fl [(CLK ty aC tC pC hC kC sC)]) := hD
                                                  refine lv_if_ne (tgt := 297) hx hb dL_sound_290 (by decide) (fun c_256 => ?_) (fun c_256 => ?_)
                                                  · first | exact absurd c_256 ((show (pC.1 17) = 0 from SG_zr hG c_101 (by decide) (by decide))) | exact absurd ((show (pC.1 17) = 0 from SG_zr hG c_101 (by decide) (by decide))) c_256
                                                  · skip
                                                    refine lv_iconst (v := 1) hx hb dL_sound_293 (by decide) ?_
                                                    refine lv_goto (tgt := 298) hx hb dL_sound_294 (by decide) ?_
                                                    refine lv_istore (lv' := [(8, .int 1), (9, .int 1), (7, .int ((((0 + (pC.1 29)) + (pC.1 32)) + (pC.1 35)) + (pC.1 38))), (6, .int ((((0 + (bz (pC.1 28))) + (bz (pC.1 31))) + (bz (pC.1 34))) + (bz (pC.1 37)))), (4, .long ((((Int32.toInt64 (pC.1 12)) + (Int32.toInt64 (pC.1 13))) + (Int32.toInt64 (pC.1 14))) + (Int32.toInt64 (pC.1 15)))), (3, .int (pdom pC.1)), (2, .int (pC.1 7)), (1, .int (pC.1 6)), (0, .ref (aC.1 0))]) hx hb dL_sound_298 hl (by decide) rfl (fun ls hl => ?_)
                                                    refine lv_iinc (v := 2) (lv' := [(9, .int 2), (8, .int 1), (7, .int ((((0 + (pC.1 29)) + (pC.1 32)) + (pC.1 35)) + (pC.1 38))), (6, .int ((((0 + (bz (pC.1 28))) + (bz (pC.1 31))) + (bz (pC.1 34))) + (bz (pC.1 37)))), (4, .long ((((Int32.toInt64 (pC.1 12)) + (Int32.toInt64 (pC.1 13))) + (Int32.toInt64 (pC.1 14))) + (Int32.toInt64 (pC.1 15)))), (3, .int (pdom pC.1)), (2, .int (pC.1 7)), (1, .int (pC.1 6)), (0, .ref (aC.1 0))]) hx hb dL_sound_300 hl (k := 1) rfl (by decide) (by decide) rfl (fun ls hl => ?_)
                                                    refine lv_goto (tgt := 267) hx hb dL_sound_303 (by decide) ?_
                                                    refine lv_iload hx hb dL_sound_267 (lv_at hl 0 rfl) ?_
                                                    refine lv_bipush (v := 8) hx hb dL_sound_269 (by decide) ?_
                                                    refine lv_icmp_ge (tgt := 306) hx hb dL_sound_271 (by decide) (fun c_257 => ?_) (fun c_257 => ?_)
                                                    · exact absurd c_257 (by decide)
                                                    · skip
                                                      refine lv_iload hx hb dL_sound_274 (lv_at hl 1 rfl) ?_
                                                      refine lv_if_eq (tgt := 306) hx hb dL_sound_276 (by decide) (fun c_258 => ?_) (fun c_258 => ?_)
                                                      · exact absurd c_258 (by decide)
                                                      · skip
                                                        refine lv_iload_n hx hb dL_sound_279 rfl (lv_at hl 5 rfl) ?_
                                                        refine lv_iconst (v := 3) hx hb dL_sound_280 (by decide) ?_
                                                        refine lv_icmp_ne (tgt := 306) hx hb dL_sound_281 (by decide) (fun c_259 => ?_) (fun c_259 => ?_)
                                                        · first | exact absurd c_259 c_101 | exact absurd c_101 c_259
                                                        · skip
                                                          refine lv_aload_n hx hb dL_sound_284 rfl (lv_at hl 8 rfl) ?_
                                                          refine lv_iload hx hb dL_sound_285 (lv_at hl 0 rfl) ?_
                                                          refine cSWi (As := [.ref (aC.1 0), .int 2]) (rest := []) ⟨hx, hb, hml, hown, hts⟩ (k_register l D ty 2 aC tC pC hC kC sC hst ((inI_d (by decide +kernel)))) (vx_cwSW 2 hts gL_sound_L_tryRegister rfl rfl rfl (by decide +kernel) ⟨Nat.le_of_ble_eq_true rfl, Nat.le_of_ble_eq_true rfl⟩) hK hX hP hD hS hA (pk (bs := [(CLK ty aC tC pC hC kC sC)]) (bsc := [(CLK ty aC tC pC hC kC sC)]) (bsr := []) [0] [] 1 rfl (by decide +kernel) rfl rfl) rfl hl.1 rfl (Nat.le_of_ble_eq_true rfl) dL_sound_287 ⟨Nat.le_of_ble_eq_true rfl, Nat.le_of_ble_eq_true rfl⟩ (fun r_261 u_260 h_262 H locs hP hD hS => ?_)
                                                          have h_r_261 : r_261 = (pC.1 18) := h_262.trans rfl
                                                          subst h_r_261
                                                          have hP : va_P D vwCl (fl [(CLK ty aC tC pC hC kC sC)]) H := hP
                                                          have hD : va_D A (fl [(CLK ty aC tC pC hC kC sC)]) := hD
                                                          refine lv_if_ne (tgt := 297) hx hb dL_sound_290 (by decide) (fun c_263 => ?_) (fun c_263 => ?_)
                                                          · first | exact absurd c_263 ((show (pC.1 18) = 0 from SG_zr hG c_101 (by decide) (by decide))) | exact absurd ((show (pC.1 18) = 0 from SG_zr hG c_101 (by decide) (by decide))) c_263
                                                          · skip
                                                            refine lv_iconst (v := 1) hx hb dL_sound_293 (by decide) ?_
                                                            refine lv_goto (tgt := 298) hx hb dL_sound_294 (by decide) ?_
                                                            refine lv_istore (lv' := [(8, .int 1), (9, .int 2), (7, .int ((((0 + (pC.1 29)) + (pC.1 32)) + (pC.1 35)) + (pC.1 38))), (6, .int ((((0 + (bz (pC.1 28))) + (bz (pC.1 31))) + (bz (pC.1 34))) + (bz (pC.1 37)))), (4, .long ((((Int32.toInt64 (pC.1 12)) + (Int32.toInt64 (pC.1 13))) + (Int32.toInt64 (pC.1 14))) + (Int32.toInt64 (pC.1 15)))), (3, .int (pdom pC.1)), (2, .int (pC.1 7)), (1, .int (pC.1 6)), (0, .ref (aC.1 0))]) hx hb dL_sound_298 hl (by decide) rfl (fun ls hl => ?_)
                                                            refine lv_iinc (v := 3) (lv' := [(9, .int 3), (8, .int 1), (7, .int ((((0 + (pC.1 29)) + (pC.1 32)) + (pC.1 35)) + (pC.1 38))), (6, .int ((((0 + (bz (pC.1 28))) + (bz (pC.1 31))) + (bz (pC.1 34))) + (bz (pC.1 37)))), (4, .long ((((Int32.toInt64 (pC.1 12)) + (Int32.toInt64 (pC.1 13))) + (Int32.toInt64 (pC.1 14))) + (Int32.toInt64 (pC.1 15)))), (3, .int (pdom pC.1)), (2, .int (pC.1 7)), (1, .int (pC.1 6)), (0, .ref (aC.1 0))]) hx hb dL_sound_300 hl (k := 1) rfl (by decide) (by decide) rfl (fun ls hl => ?_)
                                                            refine lv_goto (tgt := 267) hx hb dL_sound_303 (by decide) ?_
                                                            refine lv_iload hx hb dL_sound_267 (lv_at hl 0 rfl) ?_
                                                            refine lv_bipush (v := 8) hx hb dL_sound_269 (by decide) ?_
                                                            refine lv_icmp_ge (tgt := 306) hx hb dL_sound_271 (by decide) (fun c_264 => ?_) (fun c_264 => ?_)
                                                            · exact absurd c_264 (by decide)
                                                            · skip
                                                              refine lv_iload hx hb dL_sound_274 (lv_at hl 1 rfl) ?_
                                                              refine lv_if_eq (tgt := 306) hx hb dL_sound_276 (by decide) (fun c_265 => ?_) (fun c_265 => ?_)
                                                              · exact absurd c_265 (by decide)
                                                              · skip
                                                                refine lv_iload_n hx hb dL_sound_279 rfl (lv_at hl 5 rfl) ?_
                                                                refine lv_iconst (v := 3) hx hb dL_sound_280 (by decide) ?_
                                                                refine lv_icmp_ne (tgt := 306) hx hb dL_sound_281 (by decide) (fun c_266 => ?_) (fun c_266 => ?_)
                                                                · first | exact absurd c_266 c_101 | exact absurd c_101 c_266
                                                                · skip
                                                                  refine lv_aload_n hx hb dL_sound_284 rfl (lv_at hl 8 rfl) ?_
                                                                  refine lv_iload hx hb dL_sound_285 (lv_at hl 0 rfl) ?_
                                                                  refine cSWi (As := [.ref (aC.1 0), .int 3]) (rest := []) ⟨hx, hb, hml, hown, hts⟩ (k_register l D ty 3 aC tC pC hC kC sC hst ((inI_d (by decide +kernel)))) (vx_cwSW 2 hts gL_sound_L_tryRegister rfl rfl rfl (by decide +kernel) ⟨Nat.le_of_ble_eq_true rfl, Nat.le_of_ble_eq_true rfl⟩) hK hX hP hD hS hA (pk (bs := [(CLK ty aC tC pC hC kC sC)]) (bsc := [(CLK ty aC tC pC hC kC sC)]) (bsr := []) [0] [] 1 rfl (by decide +kernel) rfl rfl) rfl hl.1 rfl (Nat.le_of_ble_eq_true rfl) dL_sound_287 ⟨Nat.le_of_ble_eq_true rfl, Nat.le_of_ble_eq_true rfl⟩ (fun r_268 u_267 h_269 H locs hP hD hS => ?_)
                                                                  have h_r_268 : r_268 = (pC.1 19) := h_269.trans rfl
                                                                  subst h_r_268
                                                                  have hP : va_P D vwCl (fl [(CLK ty aC tC pC hC kC sC)]) H := hP
                                                                  have hD : va_D A (fl [(CLK ty aC tC pC hC kC sC)]) := hD
                                                                  refine lv_if_ne (tgt := 297) hx hb dL_sound_290 (by decide) (fun c_270 => ?_) (fun c_270 => ?_)
                                                                  · first | exact absurd c_270 ((show (pC.1 19) = 0 from SG_zr hG c_101 (by decide) (by decide))) | exact absurd ((show (pC.1 19) = 0 from SG_zr hG c_101 (by decide) (by decide))) c_270
                                                                  · skip
                                                                    refine lv_iconst (v := 1) hx hb dL_sound_293 (by decide) ?_
                                                                    refine lv_goto (tgt := 298) hx hb dL_sound_294 (by decide) ?_
                                                                    refine lv_istore (lv' := [(8, .int 1), (9, .int 3), (7, .int ((((0 + (pC.1 29)) + (pC.1 32)) + (pC.1 35)) + (pC.1 38))), (6, .int ((((0 + (bz (pC.1 28))) + (bz (pC.1 31))) + (bz (pC.1 34))) + (bz (pC.1 37)))), (4, .long ((((Int32.toInt64 (pC.1 12)) + (Int32.toInt64 (pC.1 13))) + (Int32.toInt64 (pC.1 14))) + (Int32.toInt64 (pC.1 15)))), (3, .int (pdom pC.1)), (2, .int (pC.1 7)), (1, .int (pC.1 6)), (0, .ref (aC.1 0))]) hx hb dL_sound_298 hl (by decide) rfl (fun ls hl => ?_)
                                                                    refine lv_iinc (v := 4) (lv' := [(9, .int 4), (8, .int 1), (7, .int ((((0 + (pC.1 29)) + (pC.1 32)) + (pC.1 35)) + (pC.1 38))), (6, .int ((((0 + (bz (pC.1 28))) + (bz (pC.1 31))) + (bz (pC.1 34))) + (bz (pC.1 37)))), (4, .long ((((Int32.toInt64 (pC.1 12)) + (Int32.toInt64 (pC.1 13))) + (Int32.toInt64 (pC.1 14))) + (Int32.toInt64 (pC.1 15)))), (3, .int (pdom pC.1)), (2, .int (pC.1 7)), (1, .int (pC.1 6)), (0, .ref (aC.1 0))]) hx hb dL_sound_300 hl (k := 1) rfl (by decide) (by decide) rfl (fun ls hl => ?_)
                                                                    refine lv_goto (tgt := 267) hx hb dL_sound_303 (by decide) ?_
                                                                    refine lv_iload hx hb dL_sound_267 (lv_at hl 0 rfl) ?_
                                                                    refine lv_bipush (v := 8) hx hb dL_sound_269 (by decide) ?_
                                                                    refine lv_icmp_ge (tgt := 306) hx hb dL_sound_271 (by decide) (fun c_271 => ?_) (fun c_271 => ?_)
                                                                    · exact absurd c_271 (by decide)
                                                                    · skip
                                                                      refine lv_iload hx hb dL_sound_274 (lv_at hl 1 rfl) ?_
                                                                      refine lv_if_eq (tgt := 306) hx hb dL_sound_276 (by decide) (fun c_272 => ?_) (fun c_272 => ?_)
                                                                      · exact absurd c_272 (by decide)
                                                                      · skip
                                                                        refine lv_iload_n hx hb dL_sound_279 rfl (lv_at hl 5 rfl) ?_
                                                                        refine lv_iconst (v := 3) hx hb dL_sound_280 (by decide) ?_
                                                                        refine lv_icmp_ne (tgt := 306) hx hb dL_sound_281 (by decide) (fun c_273 => ?_) (fun c_273 => ?_)
                                                                        · first | exact absurd c_273 c_101 | exact absurd c_101 c_273
                                                                        · skip
                                                                          refine lv_aload_n hx hb dL_sound_284 rfl (lv_at hl 8 rfl) ?_
                                                                          refine lv_iload hx hb dL_sound_285 (lv_at hl 0 rfl) ?_
                                                                          refine cSWi (As := [.ref (aC.1 0), .int 4]) (rest := []) ⟨hx, hb, hml, hown, hts⟩ (k_register l D ty 4 aC tC pC hC kC sC hst ((inI_d (by decide +kernel)))) (vx_cwSW 2 hts gL_sound_L_tryRegister rfl rfl rfl (by decide +kernel) ⟨Nat.le_of_ble_eq_true rfl, Nat.le_of_ble_eq_true rfl⟩) hK hX hP hD hS hA (pk (bs := [(CLK ty aC tC pC hC kC sC)]) (bsc := [(CLK ty aC tC pC hC kC sC)]) (bsr := []) [0] [] 1 rfl (by decide +kernel) rfl rfl) rfl hl.1 rfl (Nat.le_of_ble_eq_true rfl) dL_sound_287 ⟨Nat.le_of_ble_eq_true rfl, Nat.le_of_ble_eq_true rfl⟩ (fun r_275 u_274 h_276 H locs hP hD hS => ?_)
                                                                          have h_r_275 : r_275 = (pC.1 20) := h_276.trans rfl
                                                                          subst h_r_275
                                                                          have hP : va_P D vwCl (fl [(CLK ty aC tC pC hC kC sC)]) H := hP
                                                                          have hD : va_D A (fl [(CLK ty aC tC pC hC kC sC)]) := hD
                                                                          refine lv_if_ne (tgt := 297) hx hb dL_sound_290 (by decide) (fun c_277 => ?_) (fun c_277 => ?_)
                                                                          · first | exact absurd c_277 ((show (pC.1 20) = 0 from SG_zr hG c_101 (by decide) (by decide))) | exact absurd ((show (pC.1 20) = 0 from SG_zr hG c_101 (by decide) (by decide))) c_277
                                                                          · skip
                                                                            refine lv_iconst (v := 1) hx hb dL_sound_293 (by decide) ?_
                                                                            refine lv_goto (tgt := 298) hx hb dL_sound_294 (by decide) ?_
                                                                            refine lv_istore (lv' := [(8, .int 1), (9, .int 4), (7, .int ((((0 + (pC.1 29)) + (pC.1 32)) + (pC.1 35)) + (pC.1 38))), (6, .int ((((0 + (bz (pC.1 28))) + (bz (pC.1 31))) + (bz (pC.1 34))) + (bz (pC.1 37)))), (4, .long ((((Int32.toInt64 (pC.1 12)) + (Int32.toInt64 (pC.1 13))) + (Int32.toInt64 (pC.1 14))) + (Int32.toInt64 (pC.1 15)))), (3, .int (pdom pC.1)), (2, .int (pC.1 7)), (1, .int (pC.1 6)), (0, .ref (aC.1 0))]) hx hb dL_sound_298 hl (by decide) rfl (fun ls hl => ?_)
                                                                            refine lv_iinc (v := 5) (lv' := [(9, .int 5), (8, .int 1), (7, .int ((((0 + (pC.1 29)) + (pC.1 32)) + (pC.1 35)) + (pC.1 38))), (6, .int ((((0 + (bz (pC.1 28))) + (bz (pC.1 31))) + (bz (pC.1 34))) + (bz (pC.1 37)))), (4, .long ((((Int32.toInt64 (pC.1 12)) + (Int32.toInt64 (pC.1 13))) + (Int32.toInt64 (pC.1 14))) + (Int32.toInt64 (pC.1 15)))), (3, .int (pdom pC.1)), (2, .int (pC.1 7)), (1, .int (pC.1 6)), (0, .ref (aC.1 0))]) hx hb dL_sound_300 hl (k := 1) rfl (by decide) (by decide) rfl (fun ls hl => ?_)
                                                                            refine lv_goto (tgt := 267) hx hb dL_sound_303 (by decide) ?_
                                                                            refine lv_iload hx hb dL_sound_267 (lv_at hl 0 rfl) ?_
                                                                            refine lv_bipush (v := 8) hx hb dL_sound_269 (by decide) ?_
                                                                            refine lv_icmp_ge (tgt := 306) hx hb dL_sound_271 (by decide) (fun c_278 => ?_) (fun c_278 => ?_)
                                                                            · exact absurd c_278 (by decide)
                                                                            · skip
                                                                              refine lv_iload hx hb dL_sound_274 (lv_at hl 1 rfl) ?_
                                                                              refine lv_if_eq (tgt := 306) hx hb dL_sound_276 (by decide) (fun c_279 => ?_) (fun c_279 => ?_)
                                                                              · exact absurd c_279 (by decide)
                                                                              · skip
                                                                                refine lv_iload_n hx hb dL_sound_279 rfl (lv_at hl 5 rfl) ?_
                                                                                refine lv_iconst (v := 3) hx hb dL_sound_280 (by decide) ?_
                                                                                refine lv_icmp_ne (tgt := 306) hx hb dL_sound_281 (by decide) (fun c_280 => ?_) (fun c_280 => ?_)
                                                                                · first | exact absurd c_280 c_101 | exact absurd c_101 c_280
                                                                                · skip
                                                                                  refine lv_aload_n hx hb dL_sound_284 rfl (lv_at hl 8 rfl) ?_
                                                                                  refine lv_iload hx hb dL_sound_285 (lv_at hl 0 rfl) ?_
                                                                                  refine cSWi (As := [.ref (aC.1 0), .int 5]) (rest := []) ⟨hx, hb, hml, hown, hts⟩ (k_register l D ty 5 aC tC pC hC kC sC hst ((inI_d (by decide +kernel)))) (vx_cwSW 2 hts gL_sound_L_tryRegister rfl rfl rfl (by decide +kernel) ⟨Nat.le_of_ble_eq_true rfl, Nat.le_of_ble_eq_true rfl⟩) hK hX hP hD hS hA (pk (bs := [(CLK ty aC tC pC hC kC sC)]) (bsc := [(CLK ty aC tC pC hC kC sC)]) (bsr := []) [0] [] 1 rfl (by decide +kernel) rfl rfl) rfl hl.1 rfl (Nat.le_of_ble_eq_true rfl) dL_sound_287 ⟨Nat.le_of_ble_eq_true rfl, Nat.le_of_ble_eq_true rfl⟩ (fun r_282 u_281 h_283 H locs hP hD hS => ?_)
                                                                                  have h_r_282 : r_282 = (pC.1 21) := h_283.trans rfl
                                                                                  subst h_r_282
                                                                                  have hP : va_P D vwCl (fl [(CLK ty aC tC pC hC kC sC)]) H := hP
                                                                                  have hD : va_D A (fl [(CLK ty aC tC pC hC kC sC)]) := hD
                                                                                  refine lv_if_ne (tgt := 297) hx hb dL_sound_290 (by decide) (fun c_284 => ?_) (fun c_284 => ?_)
                                                                                  · first | exact absurd c_284 ((show (pC.1 21) = 0 from SG_zr hG c_101 (by decide) (by decide))) | exact absurd ((show (pC.1 21) = 0 from SG_zr hG c_101 (by decide) (by decide))) c_284
                                                                                  · skip
                                                                                    refine lv_iconst (v := 1) hx hb dL_sound_293 (by decide) ?_
                                                                                    refine lv_goto (tgt := 298) hx hb dL_sound_294 (by decide) ?_
                                                                                    refine lv_istore (lv' := [(8, .int 1), (9, .int 5), (7, .int ((((0 + (pC.1 29)) + (pC.1 32)) + (pC.1 35)) + (pC.1 38))), (6, .int ((((0 + (bz (pC.1 28))) + (bz (pC.1 31))) + (bz (pC.1 34))) + (bz (pC.1 37)))), (4, .long ((((Int32.toInt64 (pC.1 12)) + (Int32.toInt64 (pC.1 13))) + (Int32.toInt64 (pC.1 14))) + (Int32.toInt64 (pC.1 15)))), (3, .int (pdom pC.1)), (2, .int (pC.1 7)), (1, .int (pC.1 6)), (0, .ref (aC.1 0))]) hx hb dL_sound_298 hl (by decide) rfl (fun ls hl => ?_)
                                                                                    refine lv_iinc (v := 6) (lv' := [(9, .int 6), (8, .int 1), (7, .int ((((0 + (pC.1 29)) + (pC.1 32)) + (pC.1 35)) + (pC.1 38))), (6, .int ((((0 + (bz (pC.1 28))) + (bz (pC.1 31))) + (bz (pC.1 34))) + (bz (pC.1 37)))), (4, .long ((((Int32.toInt64 (pC.1 12)) + (Int32.toInt64 (pC.1 13))) + (Int32.toInt64 (pC.1 14))) + (Int32.toInt64 (pC.1 15)))), (3, .int (pdom pC.1)), (2, .int (pC.1 7)), (1, .int (pC.1 6)), (0, .ref (aC.1 0))]) hx hb dL_sound_300 hl (k := 1) rfl (by decide) (by decide) rfl (fun ls hl => ?_)
                                                                                    refine lv_goto (tgt := 267) hx hb dL_sound_303 (by decide) ?_
                                                                                    refine lv_iload hx hb dL_sound_267 (lv_at hl 0 rfl) ?_
                                                                                    refine lv_bipush (v := 8) hx hb dL_sound_269 (by decide) ?_
                                                                                    refine lv_icmp_ge (tgt := 306) hx hb dL_sound_271 (by decide) (fun c_285 => ?_) (fun c_285 => ?_)
                                                                                    · exact absurd c_285 (by decide)
                                                                                    · skip
                                                                                      refine lv_iload hx hb dL_sound_274 (lv_at hl 1 rfl) ?_
                                                                                      refine lv_if_eq (tgt := 306) hx hb dL_sound_276 (by decide) (fun c_286 => ?_) (fun c_286 => ?_)
                                                                                      · exact absurd c_286 (by decide)
                                                                                      · skip
                                                                                        refine lv_iload_n hx hb dL_sound_279 rfl (lv_at hl 5 rfl) ?_
                                                                                        refine lv_iconst (v := 3) hx hb dL_sound_280 (by decide) ?_
                                                                                        refine lv_icmp_ne (tgt := 306) hx hb dL_sound_281 (by decide) (fun c_287 => ?_) (fun c_287 => ?_)
                                                                                        · first | exact absurd c_287 c_101 | exact absurd c_101 c_287
                                                                                        · skip
                                                                                          refine lv_aload_n hx hb dL_sound_284 rfl (lv_at hl 8 rfl) ?_
                                                                                          refine lv_iload hx hb dL_sound_285 (lv_at hl 0 rfl) ?_
                                                                                          refine cSWi (As := [.ref (aC.1 0), .int 6]) (rest := []) ⟨hx, hb, hml, hown, hts⟩ (k_register l D ty 6 aC tC pC hC kC sC hst ((inI_d (by decide +kernel)))) (vx_cwSW 2 hts gL_sound_L_tryRegister rfl rfl rfl (by decide +kernel) ⟨Nat.le_of_ble_eq_true rfl, Nat.le_of_ble_eq_true rfl⟩) hK hX hP hD hS hA (pk (bs := [(CLK ty aC tC pC hC kC sC)]) (bsc := [(CLK ty aC tC pC hC kC sC)]) (bsr := []) [0] [] 1 rfl (by decide +kernel) rfl rfl) rfl hl.1 rfl (Nat.le_of_ble_eq_true rfl) dL_sound_287 ⟨Nat.le_of_ble_eq_true rfl, Nat.le_of_ble_eq_true rfl⟩ (fun r_289 u_288 h_290 H locs hP hD hS => ?_)
                                                                                          have h_r_289 : r_289 = (pC.1 22) := h_290.trans rfl
                                                                                          subst h_r_289
                                                                                          have hP : va_P D vwCl (fl [(CLK ty aC tC pC hC kC sC)]) H := hP
                                                                                          have hD : va_D A (fl [(CLK ty aC tC pC hC kC sC)]) := hD
                                                                                          refine lv_if_ne (tgt := 297) hx hb dL_sound_290 (by decide) (fun c_291 => ?_) (fun c_291 => ?_)
                                                                                          · first | exact absurd c_291 ((show (pC.1 22) = 0 from SG_zr hG c_101 (by decide) (by decide))) | exact absurd ((show (pC.1 22) = 0 from SG_zr hG c_101 (by decide) (by decide))) c_291
                                                                                          · skip
                                                                                            refine lv_iconst (v := 1) hx hb dL_sound_293 (by decide) ?_
                                                                                            refine lv_goto (tgt := 298) hx hb dL_sound_294 (by decide) ?_
                                                                                            refine lv_istore (lv' := [(8, .int 1), (9, .int 6), (7, .int ((((0 + (pC.1 29)) + (pC.1 32)) + (pC.1 35)) + (pC.1 38))), (6, .int ((((0 + (bz (pC.1 28))) + (bz (pC.1 31))) + (bz (pC.1 34))) + (bz (pC.1 37)))), (4, .long ((((Int32.toInt64 (pC.1 12)) + (Int32.toInt64 (pC.1 13))) + (Int32.toInt64 (pC.1 14))) + (Int32.toInt64 (pC.1 15)))), (3, .int (pdom pC.1)), (2, .int (pC.1 7)), (1, .int (pC.1 6)), (0, .ref (aC.1 0))]) hx hb dL_sound_298 hl (by decide) rfl (fun ls hl => ?_)
                                                                                            refine lv_iinc (v := 7) (lv' := [(9, .int 7), (8, .int 1), (7, .int ((((0 + (pC.1 29)) + (pC.1 32)) + (pC.1 35)) + (pC.1 38))), (6, .int ((((0 + (bz (pC.1 28))) + (bz (pC.1 31))) + (bz (pC.1 34))) + (bz (pC.1 37)))), (4, .long ((((Int32.toInt64 (pC.1 12)) + (Int32.toInt64 (pC.1 13))) + (Int32.toInt64 (pC.1 14))) + (Int32.toInt64 (pC.1 15)))), (3, .int (pdom pC.1)), (2, .int (pC.1 7)), (1, .int (pC.1 6)), (0, .ref (aC.1 0))]) hx hb dL_sound_300 hl (k := 1) rfl (by decide) (by decide) rfl (fun ls hl => ?_)
                                                                                            refine lv_goto (tgt := 267) hx hb dL_sound_303 (by decide) ?_
                                                                                            refine lv_iload hx hb dL_sound_267 (lv_at hl 0 rfl) ?_
                                                                                            refine lv_bipush (v := 8) hx hb dL_sound_269 (by decide) ?_
                                                                                            refine lv_icmp_ge (tgt := 306) hx hb dL_sound_271 (by decide) (fun c_292 => ?_) (fun c_292 => ?_)
                                                                                            · exact absurd c_292 (by decide)
                                                                                            · skip
                                                                                              refine lv_iload hx hb dL_sound_274 (lv_at hl 1 rfl) ?_
                                                                                              refine lv_if_eq (tgt := 306) hx hb dL_sound_276 (by decide) (fun c_293 => ?_) (fun c_293 => ?_)
                                                                                              · exact absurd c_293 (by decide)
                                                                                              · skip
                                                                                                refine lv_iload_n hx hb dL_sound_279 rfl (lv_at hl 5 rfl) ?_
                                                                                                refine lv_iconst (v := 3) hx hb dL_sound_280 (by decide) ?_
                                                                                                refine lv_icmp_ne (tgt := 306) hx hb dL_sound_281 (by decide) (fun c_294 => ?_) (fun c_294 => ?_)
                                                                                                · first | exact absurd c_294 c_101 | exact absurd c_101 c_294
                                                                                                · skip
                                                                                                  refine lv_aload_n hx hb dL_sound_284 rfl (lv_at hl 8 rfl) ?_
                                                                                                  refine lv_iload hx hb dL_sound_285 (lv_at hl 0 rfl) ?_
                                                                                                  refine cSWi (As := [.ref (aC.1 0), .int 7]) (rest := []) ⟨hx, hb, hml, hown, hts⟩ (k_register l D ty 7 aC tC pC hC kC sC hst ((inI_d (by decide +kernel)))) (vx_cwSW 2 hts gL_sound_L_tryRegister rfl rfl rfl (by decide +kernel) ⟨Nat.le_of_ble_eq_true rfl, Nat.le_of_ble_eq_true rfl⟩) hK hX hP hD hS hA (pk (bs := [(CLK ty aC tC pC hC kC sC)]) (bsc := [(CLK ty aC tC pC hC kC sC)]) (bsr := []) [0] [] 1 rfl (by decide +kernel) rfl rfl) rfl hl.1 rfl (Nat.le_of_ble_eq_true rfl) dL_sound_287 ⟨Nat.le_of_ble_eq_true rfl, Nat.le_of_ble_eq_true rfl⟩ (fun r_296 u_295 h_297 H locs hP hD hS => ?_)
                                                                                                  have h_r_296 : r_296 = (pC.1 23) := h_297.trans rfl
                                                                                                  subst h_r_296
                                                                                                  have hP : va_P D vwCl (fl [(CLK ty aC tC pC hC kC sC)]) H := hP
                                                                                                  have hD : va_D A (fl [(CLK ty aC tC pC hC kC sC)]) := hD
                                                                                                  refine lv_if_ne (tgt := 297) hx hb dL_sound_290 (by decide) (fun c_298 => ?_) (fun c_298 => ?_)
                                                                                                  · first | exact absurd c_298 ((show (pC.1 23) = 0 from SG_zr hG c_101 (by decide) (by decide))) | exact absurd ((show (pC.1 23) = 0 from SG_zr hG c_101 (by decide) (by decide))) c_298
                                                                                                  · skip
                                                                                                    refine lv_iconst (v := 1) hx hb dL_sound_293 (by decide) ?_
                                                                                                    refine lv_goto (tgt := 298) hx hb dL_sound_294 (by decide) ?_
                                                                                                    refine lv_istore (lv' := [(8, .int 1), (9, .int 7), (7, .int ((((0 + (pC.1 29)) + (pC.1 32)) + (pC.1 35)) + (pC.1 38))), (6, .int ((((0 + (bz (pC.1 28))) + (bz (pC.1 31))) + (bz (pC.1 34))) + (bz (pC.1 37)))), (4, .long ((((Int32.toInt64 (pC.1 12)) + (Int32.toInt64 (pC.1 13))) + (Int32.toInt64 (pC.1 14))) + (Int32.toInt64 (pC.1 15)))), (3, .int (pdom pC.1)), (2, .int (pC.1 7)), (1, .int (pC.1 6)), (0, .ref (aC.1 0))]) hx hb dL_sound_298 hl (by decide) rfl (fun ls hl => ?_)
                                                                                                    refine lv_iinc (v := 8) (lv' := [(9, .int 8), (8, .int 1), (7, .int ((((0 + (pC.1 29)) + (pC.1 32)) + (pC.1 35)) + (pC.1 38))), (6, .int ((((0 + (bz (pC.1 28))) + (bz (pC.1 31))) + (bz (pC.1 34))) + (bz (pC.1 37)))), (4, .long ((((Int32.toInt64 (pC.1 12)) + (Int32.toInt64 (pC.1 13))) + (Int32.toInt64 (pC.1 14))) + (Int32.toInt64 (pC.1 15)))), (3, .int (pdom pC.1)), (2, .int (pC.1 7)), (1, .int (pC.1 6)), (0, .ref (aC.1 0))]) hx hb dL_sound_300 hl (k := 1) rfl (by decide) (by decide) rfl (fun ls hl => ?_)
                                                                                                    refine lv_goto (tgt := 267) hx hb dL_sound_303 (by decide) ?_
                                                                                                    refine lv_iload hx hb dL_sound_267 (lv_at hl 0 rfl) ?_
                                                                                                    refine lv_bipush (v := 8) hx hb dL_sound_269 (by decide) ?_
                                                                                                    refine lv_icmp_ge (tgt := 306) hx hb dL_sound_271 (by decide) (fun c_299 => ?_) (fun c_299 => ?_)
                                                                                                    · skip
                                                                                                      refine lv_iconst (v := 0) hx hb dL_sound_306 (by decide) ?_
                                                                                                      refine lv_istore (lv' := [(9, .int 0), (8, .int 1), (7, .int ((((0 + (pC.1 29)) + (pC.1 32)) + (pC.1 35)) + (pC.1 38))), (6, .int ((((0 + (bz (pC.1 28))) + (bz (pC.1 31))) + (bz (pC.1 34))) + (bz (pC.1 37)))), (4, .long ((((Int32.toInt64 (pC.1 12)) + (Int32.toInt64 (pC.1 13))) + (Int32.toInt64 (pC.1 14))) + (Int32.toInt64 (pC.1 15)))), (3, .int (pdom pC.1)), (2, .int (pC.1 7)), (1, .int (pC.1 6)), (0, .ref (aC.1 0))]) hx hb dL_sound_307 hl (by decide) rfl (fun ls hl => ?_)
                                                                                                      refine lv_iload hx hb dL_sound_309 (lv_at hl 0 rfl) ?_
                                                                                                      refine lv_aload_n hx hb dL_sound_311 rfl (lv_at hl 8 rfl) ?_
                                                                                                      refine lv_bipush (v := 10) hx hb dL_sound_312 (by decide) ?_
                                                                                                      refine cSWi (As := [.ref (aC.1 0), .int 10]) (rest := [.int 0]) ⟨hx, hb, hml, hown, hts⟩ (k_about l D ty 10 aC tC pC hC kC sC hst ((inR_d (by decide +kernel)))) (vx_cwSW 2 hts gL_sound_L_tryAbout rfl rfl rfl (by decide +kernel) ⟨Nat.le_of_ble_eq_true rfl, Nat.le_of_ble_eq_true rfl⟩) hK hX hP hD hS hA (pk (bs := [(CLK ty aC tC pC hC kC sC)]) (bsc := [(CLK ty aC tC pC hC kC sC)]) (bsr := []) [0] [] 1 rfl (by decide +kernel) rfl rfl) rfl hl.1 rfl (Nat.le_of_ble_eq_true rfl) dL_sound_314 ⟨Nat.le_of_ble_eq_true rfl, Nat.le_of_ble_eq_true rfl⟩ (fun r_301 u_300 h_302 H locs hP hD hS => ?_)
                                                                                                      have h_r_301 : r_301 = pC.1 11 := h_302.trans (tell_10 _)
                                                                                                      subst h_r_301
                                                                                                      have hP : va_P D vwCl (fl [(CLK ty aC tC pC hC kC sC)]) H := hP
                                                                                                      have hD : va_D A (fl [(CLK ty aC tC pC hC kC sC)]) := hD
                                                                                                      refine lv_icmp_ge (tgt := 380) hx hb dL_sound_317 (by decide) (fun c_303 => ?_) (fun c_303 => ?_)
                                                                                                      · skip
                                                                                                        refine lv_iload hx hb dL_sound_380 (lv_at hl 1 rfl) ?_
                                                                                                        refine lv_if_eq (tgt := 437) hx hb dL_sound_382 (by decide) (fun c_304 => ?_) (fun c_304 => ?_)
                                                                                                        · exact absurd c_304 (by decide)
                                                                                                        · skip
                                                                                                          refine lv_iload_n hx hb dL_sound_385 rfl (lv_at hl 5 rfl) ?_
                                                                                                          refine lv_iconst (v := 3) hx hb dL_sound_386 (by decide) ?_
                                                                                                          refine lv_icmp_ne (tgt := 433) hx hb dL_sound_387 (by decide) (fun c_305 => ?_) (fun c_305 => ?_)
                                                                                                          · first | exact absurd c_305 c_101 | exact absurd c_101 c_305
                                                                                                          · skip
                                                                                                            refine lv_aload_n hx hb dL_sound_390 rfl (lv_at hl 8 rfl) ?_
                                                                                                            refine lv_iconst (v := 1) hx hb dL_sound_391 (by decide) ?_
                                                                                                            refine cSWi (As := [.ref (aC.1 0), .int 1]) (rest := []) ⟨hx, hb, hml, hown, hts⟩ (k_about l D ty 1 aC tC pC hC kC sC hst ((inR_d (by decide +kernel)))) (vx_cwSW 2 hts gL_sound_L_tryAbout rfl rfl rfl (by decide +kernel) ⟨Nat.le_of_ble_eq_true rfl, Nat.le_of_ble_eq_true rfl⟩) hK hX hP hD hS hA (pk (bs := [(CLK ty aC tC pC hC kC sC)]) (bsc := [(CLK ty aC tC pC hC kC sC)]) (bsr := []) [0] [] 1 rfl (by decide +kernel) rfl rfl) rfl hl.1 rfl (Nat.le_of_ble_eq_true rfl) dL_sound_392 ⟨Nat.le_of_ble_eq_true rfl, Nat.le_of_ble_eq_true rfl⟩ (fun r_307 u_306 h_308 H locs hP hD hS => ?_)
                                                                                                            have h_r_307 : r_307 = pC.1 1 := h_308.trans (tell_1 _)
                                                                                                            subst h_r_307
                                                                                                            have hP : va_P D vwCl (fl [(CLK ty aC tC pC hC kC sC)]) H := hP
                                                                                                            have hD : va_D A (fl [(CLK ty aC tC pC hC kC sC)]) := hD
                                                                                                            refine lv_if_ne (tgt := 437) hx hb dL_sound_395 (by decide) (fun c_309 => ?_) (fun c_309 => ?_)
                                                                                                            · first | exact absurd c_309 ((show (pC.1 1) = 0 from SG_z1 hG c_101)) | exact absurd ((show (pC.1 1) = 0 from SG_z1 hG c_101)) c_309
                                                                                                            · skip
                                                                                                              refine lv_aload_n hx hb dL_sound_398 rfl (lv_at hl 8 rfl) ?_
                                                                                                              refine lv_iconst (v := 2) hx hb dL_sound_399 (by decide) ?_
                                                                                                              refine cSWi (As := [.ref (aC.1 0), .int 2]) (rest := []) ⟨hx, hb, hml, hown, hts⟩ (k_about l D ty 2 aC tC pC hC kC sC hst ((inR_d (by decide +kernel)))) (vx_cwSW 2 hts gL_sound_L_tryAbout rfl rfl rfl (by decide +kernel) ⟨Nat.le_of_ble_eq_true rfl, Nat.le_of_ble_eq_true rfl⟩) hK hX hP hD hS hA (pk (bs := [(CLK ty aC tC pC hC kC sC)]) (bsc := [(CLK ty aC tC pC hC kC sC)]) (bsr := []) [0] [] 1 rfl (by decide +kernel) rfl rfl) rfl hl.1 rfl (Nat.le_of_ble_eq_true rfl) dL_sound_400 ⟨Nat.le_of_ble_eq_true rfl, Nat.le_of_ble_eq_true rfl⟩ (fun r_311 u_310 h_312 H locs hP hD hS => ?_)
                                                                                                              have h_r_311 : r_311 = pC.1 2 := h_312.trans (tell_2 _)
                                                                                                              subst h_r_311
                                                                                                              have hP : va_P D vwCl (fl [(CLK ty aC tC pC hC kC sC)]) H := hP
                                                                                                              have hD : va_D A (fl [(CLK ty aC tC pC hC kC sC)]) := hD
                                                                                                              refine lv_if_ne (tgt := 437) hx hb dL_sound_403 (by decide) (fun c_313 => ?_) (fun c_313 => ?_)
                                                                                                              · first | exact absurd c_313 ((show (pC.1 2) = 0 from SG_z2 hG c_101)) | exact absurd ((show (pC.1 2) = 0 from SG_z2 hG c_101)) c_313
                                                                                                              · skip
                                                                                                                refine lv_aload_n hx hb dL_sound_406 rfl (lv_at hl 8 rfl) ?_
                                                                                                                refine lv_bipush (v := 6) hx hb dL_sound_407 (by decide) ?_
                                                                                                                refine cSWi (As := [.ref (aC.1 0), .int 6]) (rest := []) ⟨hx, hb, hml, hown, hts⟩ (k_about l D ty 6 aC tC pC hC kC sC hst ((inR_d (by decide +kernel)))) (vx_cwSW 2 hts gL_sound_L_tryAbout rfl rfl rfl (by decide +kernel) ⟨Nat.le_of_ble_eq_true rfl, Nat.le_of_ble_eq_true rfl⟩) hK hX hP hD hS hA (pk (bs := [(CLK ty aC tC pC hC kC sC)]) (bsc := [(CLK ty aC tC pC hC kC sC)]) (bsr := []) [0] [] 1 rfl (by decide +kernel) rfl rfl) rfl hl.1 rfl (Nat.le_of_ble_eq_true rfl) dL_sound_409 ⟨Nat.le_of_ble_eq_true rfl, Nat.le_of_ble_eq_true rfl⟩ (fun r_315 u_314 h_316 H locs hP hD hS => ?_)
                                                                                                                have h_r_315 : r_315 = bz (pC.1 5) := h_316.trans (tell_6 _)
                                                                                                                subst h_r_315
                                                                                                                have hP : va_P D vwCl (fl [(CLK ty aC tC pC hC kC sC)]) H := hP
                                                                                                                have hD : va_D A (fl [(CLK ty aC tC pC hC kC sC)]) := hD
                                                                                                                refine lv_if_ne (tgt := 437) hx hb dL_sound_412 (by decide) (fun c_317 => ?_) (fun c_317 => ?_)
                                                                                                                · first | exact absurd c_317 ((show (bz (pC.1 5)) = 0 from SG_z5 hG c_101)) | exact absurd ((show (bz (pC.1 5)) = 0 from SG_z5 hG c_101)) c_317
                                                                                                                · skip
                                                                                                                  refine lv_aload_n hx hb dL_sound_415 rfl (lv_at hl 8 rfl) ?_
                                                                                                                  refine lv_bipush (v := 10) hx hb dL_sound_416 (by decide) ?_
                                                                                                                  refine cSWi (As := [.ref (aC.1 0), .int 10]) (rest := []) ⟨hx, hb, hml, hown, hts⟩ (k_about l D ty 10 aC tC pC hC kC sC hst ((inR_d (by decide +kernel)))) (vx_cwSW 2 hts gL_sound_L_tryAbout rfl rfl rfl (by decide +kernel) ⟨Nat.le_of_ble_eq_true rfl, Nat.le_of_ble_eq_true rfl⟩) hK hX hP hD hS hA (pk (bs := [(CLK ty aC tC pC hC kC sC)]) (bsc := [(CLK ty aC tC pC hC kC sC)]) (bsr := []) [0] [] 1 rfl (by decide +kernel) rfl rfl) rfl hl.1 rfl (Nat.le_of_ble_eq_true rfl) dL_sound_418 ⟨Nat.le_of_ble_eq_true rfl, Nat.le_of_ble_eq_true rfl⟩ (fun r_319 u_318 h_320 H locs hP hD hS => ?_)
                                                                                                                  have h_r_319 : r_319 = pC.1 11 := h_320.trans (tell_10 _)
                                                                                                                  subst h_r_319
                                                                                                                  have hP : va_P D vwCl (fl [(CLK ty aC tC pC hC kC sC)]) H := hP
                                                                                                                  have hD : va_D A (fl [(CLK ty aC tC pC hC kC sC)]) := hD
                                                                                                                  refine lv_if_ne (tgt := 437) hx hb dL_sound_421 (by decide) (fun c_321 => ?_) (fun c_321 => ?_)
                                                                                                                  · first | exact absurd c_321 ((show (pC.1 11) = 0 from SG_z11 hG c_101)) | exact absurd ((show (pC.1 11) = 0 from SG_z11 hG c_101)) c_321
                                                                                                                  · skip
                                                                                                                    refine lv_aload_n hx hb dL_sound_424 rfl (lv_at hl 8 rfl) ?_
                                                                                                                    refine lv_bipush (v := 14) hx hb dL_sound_425 (by decide) ?_
                                                                                                                    refine cSWi (As := [.ref (aC.1 0), .int 14]) (rest := []) ⟨hx, hb, hml, hown, hts⟩ (k_about l D ty 14 aC tC pC hC kC sC hst ((inR_d (by decide +kernel)))) (vx_cwSW 2 hts gL_sound_L_tryAbout rfl rfl rfl (by decide +kernel) ⟨Nat.le_of_ble_eq_true rfl, Nat.le_of_ble_eq_true rfl⟩) hK hX hP hD hS hA (pk (bs := [(CLK ty aC tC pC hC kC sC)]) (bsc := [(CLK ty aC tC pC hC kC sC)]) (bsr := []) [0] [] 1 rfl (by decide +kernel) rfl rfl) rfl hl.1 rfl (Nat.le_of_ble_eq_true rfl) dL_sound_427 ⟨Nat.le_of_ble_eq_true rfl, Nat.le_of_ble_eq_true rfl⟩ (fun r_323 u_322 h_324 H locs hP hD hS => ?_)
                                                                                                                    have h_r_323 : r_323 = pC.1 10 := h_324.trans (tell_14 _)
                                                                                                                    subst h_r_323
                                                                                                                    have hP : va_P D vwCl (fl [(CLK ty aC tC pC hC kC sC)]) H := hP
                                                                                                                    have hD : va_D A (fl [(CLK ty aC tC pC hC kC sC)]) := hD
                                                                                                                    refine lv_if_le (tgt := 437) hx hb dL_sound_430 (by decide) (fun c_325 => ?_) (fun c_325 => ?_)
                                                                                                                    · first | exact absurd c_325 (SG_z10 hG c_101) | exact absurd (SG_z10 hG c_101) c_325
                                                                                                                    · skip
                                                                                                                      refine lv_iconst (v := 1) hx hb dL_sound_433 (by decide) ?_
                                                                                                                      refine lv_goto (tgt := 438) hx hb dL_sound_434 (by decide) ?_
                                                                                                                      subst hQg
                                                                                                                      have hP : va_P D vwCl (fl [(CLK ty aC tC pC hC kC sC)]) H := hP
                                                                                                                      have hD : va_D A (fl [(CLK ty aC tC pC hC kC sC)]) := hD
                                                                                                                      exact end_z (bs' := (fun (_ : Unit) => [(CLK ty aC tC pC hC kC sC)])) () hx hb hr hlocks rfl hP hD hS rfl (Nat.le_of_ble_eq_true rfl) (Nat.le_of_ble_eq_true rfl) dL_sound_438
                                                                                                      · first | exact absurd c_303 (SG_z11' hG c_101) | exact absurd (SG_z11' hG c_101) c_303
                                                                                                    · exact absurd (by decide) c_299
                                  refine lv_aload_n hx hb dL_sound_240 rfl (lv_at hl 7 rfl) ?_
                                  refine cVi (As := []) (rest := []) ⟨hx, hb, hml, hown, hts⟩ (k_endsAfter l D ty aC tC pC hC kC sC) (cwV 0 hts gL_sound_X9_endsAfter rfl rfl rfl (by decide +kernel) ⟨Nat.le_of_ble_eq_true rfl, Nat.le_of_ble_eq_true rfl⟩) hK hX hP hD hS hA (pk (bs := [(CLK ty aC tC pC hC kC sC)]) (bsc := [(CLK ty aC tC pC hC kC sC)]) (bsr := []) [0] [] 1 rfl (by decide +kernel) rfl rfl) (ci := 8) rfl 0 rfl rfl hl.1 rfl (Nat.le_of_ble_eq_true rfl) dL_sound_241 ⟨Nat.le_of_ble_eq_true rfl, Nat.le_of_ble_eq_true rfl⟩ (fun r_327 u_326 h_328 H locs hP hD hS => ?_)
                                  have h_r_327 : r_327 = (if pdom pC.1 = 0 then -99999999 else pC.1 7) := h_328
                                  subst h_r_327
                                  have hP : va_P D vwCl (fl [(CLK ty aC tC pC hC kC sC)]) H := hP
                                  have hD : va_D A (fl [(CLK ty aC tC pC hC kC sC)]) := hD
                                  refine lv_iload_n hx hb dL_sound_244 rfl (lv_at hl 4 rfl) ?_
                                  refine lv_if_ne (tgt := 253) hx hb dL_sound_245 (by decide) (fun c_329 => ?_) (fun c_329 => ?_)
                                  · skip
                                    refine lv_iload_n hx hb dL_sound_253 rfl (lv_at hl 5 rfl) ?_
                                    refine lv_icmp_ne (tgt := 261) hx hb dL_sound_254 (by decide) (fun c_330 => ?_) (fun c_330 => ?_)
                                    · first | exact absurd c_330 ((show (if pdom pC.1 = 0 then -99999999 else pC.1 7) = (pC.1 7) from if_neg c_329)) | exact absurd ((show (if pdom pC.1 = 0 then -99999999 else pC.1 7) = (pC.1 7) from if_neg c_329)) c_330
                                    · skip
                                      exact hJ257_97 _ _ hP hD hS _ (lv_sub hl [0, 1, 2, 3, 4, 5, 6, 7] rfl)
                                  · skip
                                    refine lv_ldc hx hb hown (hts (Cond.constant RL 138 (-99999999)) (List.mem_of_getElem? (i := 2) rfl)) dL_sound_248 ?_
                                    refine lv_goto (tgt := 254) hx hb dL_sound_250 (by decide) ?_
                                    refine lv_icmp_ne (tgt := 261) hx hb dL_sound_254 (by decide) (fun c_331 => ?_) (fun c_331 => ?_)
                                    · first | exact absurd c_331 ((show (if pdom pC.1 = 0 then -99999999 else pC.1 7) = (-99999999) from if_pos c_329)) | exact absurd ((show (if pdom pC.1 = 0 then -99999999 else pC.1 7) = (-99999999) from if_pos c_329)) c_331
                                    · skip
                                      exact hJ257_97 _ _ hP hD hS _ (lv_sub hl [0, 1, 2, 3, 4, 5, 6, 7] rfl)
                            refine lv_iload_n hx hb dL_sound_199 rfl (lv_at hl 4 rfl) ?_
                            refine lv_iconst (v := 1) hx hb dL_sound_200 (by decide) ?_
                            refine lv_icmp_eq (tgt := 214) hx hb dL_sound_201 (by decide) (fun c_332 => ?_) (fun c_332 => ?_)
                            · skip
                              exact hJ214_85 _ _ hP hD hS _ (lv_sub hl [0, 1, 2, 3, 4, 5, 6, 7] rfl)
                            · skip
                              refine lv_iload_n hx hb dL_sound_204 rfl (lv_at hl 4 rfl) ?_
                              refine lv_iconst (v := 2) hx hb dL_sound_205 (by decide) ?_
                              refine lv_icmp_eq (tgt := 214) hx hb dL_sound_206 (by decide) (fun c_333 => ?_) (fun c_333 => ?_)
                              · skip
                                exact hJ214_85 _ _ hP hD hS _ (lv_sub hl [0, 1, 2, 3, 4, 5, 6, 7] rfl)
                              · skip
                                refine lv_iload hx hb dL_sound_209 (lv_at hl 2 rfl) ?_
                                refine lv_if_ne (tgt := 261) hx hb dL_sound_211 (by decide) (fun c_334 => ?_) (fun c_334 => ?_)
                                · first | exact absurd c_334 ((show ((((0 + (bz (pC.1 28))) + (bz (pC.1 31))) + (bz (pC.1 34))) + (bz (pC.1 37))) = 0 from SG_wait hG c_332 c_333)) | exact absurd ((show ((((0 + (bz (pC.1 28))) + (bz (pC.1 31))) + (bz (pC.1 34))) + (bz (pC.1 37))) = 0 from SG_wait hG c_332 c_333)) c_334
                                · skip
                                  exact hJ214_85 _ _ hP hD hS _ (lv_sub hl [0, 1, 2, 3, 4, 5, 6, 7] rfl)
            · exact absurd (by decide) c_48
  refine lv_iload_n hx hb dL_sound_14 rfl (lv_at hl 1 rfl) ?_
  refine lv_iconst (v := 5) hx hb dL_sound_15 (by decide) ?_
  refine lv_icmp_le (tgt := 23) hx hb dL_sound_16 (by decide) (fun c_335 => ?_) (fun c_335 => ?_)
  · skip
    refine lv_iload_n hx hb dL_sound_23 rfl (lv_at hl 0 rfl) ?_
    refine lv_if_ne (tgt := 31) hx hb dL_sound_24 (by decide) (fun c_336 => ?_) (fun c_336 => ?_)
    · skip
      refine lv_iload_n hx hb dL_sound_31 rfl (lv_at hl 1 rfl) ?_
      refine lv_iconst (v := 2) hx hb dL_sound_32 (by decide) ?_
      refine lv_icmp_le (tgt := 40) hx hb dL_sound_33 (by decide) (fun c_337 => ?_) (fun c_337 => ?_)
      · skip
        refine lv_iconst (v := 2) hx hb dL_sound_40 (by decide) ?_
        refine W.eq (g2 := F0 m 41 ls [.int (pdom pC.1)]) (by rw [snd_d c_335 c_336 c_337]) ?_
        exact hJ41_6 _ _ hP hD hS _ (lv_sub hl [0, 1, 2] rfl)
      · skip
        refine lv_iconst (v := 1) hx hb dL_sound_36 (by decide) ?_
        refine lv_goto (tgt := 41) hx hb dL_sound_37 (by decide) ?_
        refine W.eq (g2 := F0 m 41 ls [.int (pdom pC.1)]) (by rw [snd_c c_335 c_336 c_337]) ?_
        exact hJ41_6 _ _ hP hD hS _ (lv_sub hl [0, 1, 2] rfl)
    · skip
      refine lv_iconst (v := 3) hx hb dL_sound_27 (by decide) ?_
      refine lv_goto (tgt := 41) hx hb dL_sound_28 (by decide) ?_
      refine W.eq (g2 := F0 m 41 ls [.int (pdom pC.1)]) (by rw [snd_b c_335 c_336]) ?_
      exact hJ41_6 _ _ hP hD hS _ (lv_sub hl [0, 1, 2] rfl)
  · skip
    refine lv_iconst (v := 0) hx hb dL_sound_19 (by decide) ?_
    refine lv_goto (tgt := 41) hx hb dL_sound_20 (by decide) ?_
    refine W.eq (g2 := F0 m 41 ls [.int (pdom pC.1)]) (by rw [snd_a c_335]) ?_
    exact hJ41_6 _ _ hP hD hS _ (lv_sub hl [0, 1, 2] rfl)
